import java.io.IOException;
import java.lang.reflect.Field;
import java.lang.reflect.Modifier;
import java.nio.file.Files;
import java.nio.file.Path;
import java.util.Arrays;
import java.util.regex.Matcher;
import java.util.regex.Pattern;

/** Rules of LANGUAGE.md that can be seen in the source, whose path is the first argument, and in the class. */
public final class LanguageTest {
    private static final String[] RULED_OUT = {
        "\\bthrow\\b", "\\bthrows\\b", "\\btry\\b", "\\bcatch\\b", "\\bfinally\\b", "\\bsynchronized\\b",
        "\\bassert\\b", "->", "::", "\\bpackage\\b", "\\bThread\\b", "\\bRandom\\b", "\\bcurrentTimeMillis\\b",
        "\\bnanoTime\\b", "Exact\\b", "\\bstatic\\s*\\{", "\\bprotected\\b", "\\bvar\\b", "\\bimport\\b",
        "\\bhashCode\\b", "\\btoString\\b", "\\bnative\\b", "\\bvolatile\\b"
    };
    private static final Pattern METHOD =
        Pattern.compile("^( +)(?:(?:public|private|static|final) )*[\\w\\[\\]]+( \\w+)?\\(([^)]*)\\) \\{$");

    public static void main(String[] args) throws IOException {
        String source = Files.readString(Path.of(args[0]));
        String bare = source.replaceAll("(?s)/\\*.*?\\*/", "").replaceAll("//[^\n]*", "");
        for (String word : RULED_OUT) {
            Due.isTrue(word + " is not in the source", !Pattern.compile(word).matcher(bare).find());
        }
        for (int i = 0; i < source.length(); i++) {
            Due.isTrue("the sign at " + i + " is plain", source.charAt(i) <= 127);
        }
        Due.isTrue("at most twelve classes", count("\\bclass \\w+", bare) <= 12);
        methodsAreSmall(bare);
        classesAreSmall();
        Due.end();
    }

    private static int count(String pattern, String text) {
        Matcher m = Pattern.compile(pattern).matcher(text);
        int n = 0;
        while (m.find()) {
            n++;
        }
        return n;
    }

    private static void methodsAreSmall(String bare) {
        String[] lines = bare.split("\n");
        int seen = 0;
        for (int i = 0; i < lines.length; i++) {
            Matcher m = METHOD.matcher(lines[i]);
            if (!m.find()) {
                continue;
            }
            seen++;
            int end = i;
            while (end < lines.length && !lines[end].equals(m.group(1) + "}")) {
                end++;
            }
            Due.isTrue(lines[i] + " stays under sixty lines", end - i < 60);
            Due.isTrue(lines[i] + " takes at most seven parameters", m.group(3).split(",").length <= 7);
            String body = String.join("\n", Arrays.copyOfRange(lines, i, end));
            // What a constructor makes is made once; all calls of a run share one room.
            boolean constructor = m.group(2) == null;
            Due.isTrue(lines[i] + " makes nothing", constructor || !Pattern.compile("\\bnew\\b").matcher(body).find());
        }
        Due.isTrue("methods were seen", seen > 32);
    }

    private static void classesAreSmall() {
        fieldsOf(DebtDowry.class);
        for (Class<?> inside : DebtDowry.class.getDeclaredClasses()) {
            fieldsOf(inside);
        }
    }

    private static void fieldsOf(Class<?> one) {
        int fields = 0;
        for (Field f : one.getDeclaredFields()) {
            boolean fixed = Modifier.isStatic(f.getModifiers());
            fields += fixed ? 0 : 1;
            Due.isTrue(f + " is a constant number", !fixed || f.getType() == int.class);
            Due.isTrue(f + " is final, if static", !fixed || Modifier.isFinal(f.getModifiers()));
        }
        Due.isTrue(one + " has at most twenty fields", fields <= 20);
    }
}
