import java.lang.reflect.Constructor;
import java.lang.reflect.Field;
import java.lang.reflect.Member;
import java.lang.reflect.Method;
import java.lang.reflect.Modifier;
import java.util.Arrays;
import java.util.Set;
import java.util.TreeSet;

/** The public face: just what the document names, and nothing else that could be seen from outside. */
public final class FaceTest {
    private static final String[] FACE = {
        "feed(int)", "town()", "fault()", "told(int)", "creditor(int,int)", "person(int,int)", "owes(int,int)",
        "temper(int,int)", "borrow(int,int,int)", "pay(int,int,int)", "quarter(int)", "wed(int,int)",
        "divorce(int)", "drift(int)", "undo(int)", "joined(int,int)", "least(int,int,int)",
        "plan(int,int,int,int)", "matches(int)", "failing()", "run(int)", "credit(int,int)", "rumours(int,int)",
        "card(int,int,int,boolean)", "had(int,int,int)", "lookAt(int,int)", "write(int,int)", "judge()", "tear()",
        "seed(int)", "keep(int)", "goBack(int)"
    };

    public static void main(String[] args) {
        Due.is("NONE", DebtDowry.NONE, -1);
        Due.is("UNKNOWN", DebtDowry.UNKNOWN, -1000000001);
        Due.is("OUTSIDE", DebtDowry.OUTSIDE, -1000000002);
        Due.is("NOT", DebtDowry.NOT, -1000000003);
        Due.is("FULL", DebtDowry.FULL, -1000000004);
        methods();
        fields();
        constructors();
        Due.isTrue("the class is public", Modifier.isPublic(DebtDowry.class.getModifiers()));
        Due.isTrue("the class is final", Modifier.isFinal(DebtDowry.class.getModifiers()));
        Due.end();
    }

    private static boolean isHidden(Member member) {
        return Modifier.isPrivate(member.getModifiers()) || member.isSynthetic();
    }

    private static void methods() {
        Set<String> due = new TreeSet<>(Arrays.asList(FACE));
        Set<String> publicNames = new TreeSet<>();
        for (String signature : FACE) {
            publicNames.add(signature.substring(0, signature.indexOf('(')));
        }
        for (Method m : DebtDowry.class.getDeclaredMethods()) {
            if (isHidden(m)) {
                Due.isTrue(m + " bears no public name", !publicNames.contains(m.getName()));
                continue;
            }
            StringBuilder signature = new StringBuilder(m.getName()).append('(');
            for (Class<?> type : m.getParameterTypes()) {
                signature.append(signature.charAt(signature.length() - 1) == '(' ? "" : ",").append(type.getName());
            }
            Due.isTrue(m + " stands in the face", due.remove(signature.append(')').toString()));
            Due.isTrue(m + " is public", Modifier.isPublic(m.getModifiers()));
            Due.isTrue(m + " is no static one", !Modifier.isStatic(m.getModifiers()));
            Due.isTrue(m + " answers an int", m.getReturnType() == int.class);
        }
        Due.isTrue("all of the face is there, but " + due, due.isEmpty());
        for (Class<?> inside : DebtDowry.class.getDeclaredClasses()) {
            for (Method m : inside.getDeclaredMethods()) {
                Due.isTrue(m + " bears no public name", !publicNames.contains(m.getName()));
            }
            Due.isTrue(inside + " is static", Modifier.isStatic(inside.getModifiers()));
            int seen = inside.getModifiers() & (Modifier.PUBLIC | Modifier.PROTECTED);
            Due.is(inside + " is seen from outside", seen, 0);
        }
    }

    private static void fields() {
        Set<String> due = new TreeSet<>(Arrays.asList("NONE", "UNKNOWN", "OUTSIDE", "NOT", "FULL"));
        for (Field f : DebtDowry.class.getDeclaredFields()) {
            if (!isHidden(f)) {
                Due.isTrue(f + " stands in the face", due.remove(f.getName()));
                Due.is(f.toString(), f.getModifiers(), Modifier.PUBLIC | Modifier.STATIC | Modifier.FINAL);
            } else if (Modifier.isStatic(f.getModifiers())) {
                Due.isTrue(f + " is final", Modifier.isFinal(f.getModifiers()));
            }
        }
    }

    private static void constructors() {
        int seen = 0;
        for (Constructor<?> c : DebtDowry.class.getDeclaredConstructors()) {
            if (!isHidden(c)) {
                seen++;
                Due.isTrue(c + " is public", Modifier.isPublic(c.getModifiers()));
                Due.is("its parameters", c.getParameterCount(), 0);
            }
        }
        Due.is("constructors", seen, 1);
    }
}
