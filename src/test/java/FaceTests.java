import java.lang.reflect.Constructor;
import java.lang.reflect.Member;
import java.lang.reflect.Method;
import java.lang.reflect.Modifier;
import java.util.HashSet;
import java.util.Set;
import java.util.TreeSet;

/** The public face: the rows of the document, each with its exceptions in their order, and no other. */
public final class FaceTests {
    private static final String FACE = """
            int start(char format, int number, int version, int first) throws IllegalArgumentException, IllegalStateException
            int type(char sign) throws IllegalArgumentException, IllegalStateException
            int clear()
            int bowl(int player) throws IllegalArgumentException, IllegalStateException, UnsupportedOperationException
            int ball() throws IllegalArgumentException, IllegalStateException, UnsupportedOperationException
            boolean review() throws UnsupportedOperationException
            int send(int player) throws IllegalArgumentException, IllegalStateException, UnsupportedOperationException
            int retire(boolean isStriker) throws IllegalStateException, UnsupportedOperationException
            boolean hurt(int player) throws IllegalArgumentException, IllegalStateException
            int miscount(int balls) throws IllegalArgumentException, IllegalStateException
            int declare() throws IllegalStateException, UnsupportedOperationException
            int enforce() throws UnsupportedOperationException
            int rain(int overs) throws IllegalArgumentException, IllegalStateException, UnsupportedOperationException
            boolean time() throws IllegalStateException
            int innings()
            int team(int innings) throws IndexOutOfBoundsException
            int runs(int innings) throws IndexOutOfBoundsException
            int wickets(int innings) throws IndexOutOfBoundsException
            int balls(int innings) throws IndexOutOfBoundsException
            int extras(int innings, char kind) throws IndexOutOfBoundsException, IllegalArgumentException
            int bonus(int team) throws IllegalArgumentException
            boolean isOn()
            int striker() throws IllegalStateException
            int other() throws IllegalStateException
            int batted(int innings, int player) throws IndexOutOfBoundsException
            int faced(int innings, int player) throws IndexOutOfBoundsException
            int boundaries(int innings, int player) throws IndexOutOfBoundsException
            char state(int innings, int player) throws IndexOutOfBoundsException
            int bowled(int innings, int player, char what) throws IndexOutOfBoundsException, IllegalArgumentException
            int fall(int innings, int wicket) throws IndexOutOfBoundsException, NoSuchElementException
            int partnership(int innings) throws IndexOutOfBoundsException
            int target() throws IllegalStateException, NoSuchElementException
            int resources(int innings) throws IndexOutOfBoundsException, UnsupportedOperationException
            char result()
            int reviews(int team) throws IllegalArgumentException, IllegalStateException
            int told()
            char signAt(int ball, int index) throws IndexOutOfBoundsException, NoSuchElementException
            boolean note() throws IllegalArgumentException, UnsupportedOperationException
            int firstDiffering() throws NoSuchElementException
            int runsBySecond(int innings) throws IndexOutOfBoundsException
            int runsBy(int innings, int version) throws IllegalArgumentException, IndexOutOfBoundsException
            int wrongBoxes(int batters, int extras, int total, int bowlers, int others)
            char resultOf(int match) throws IndexOutOfBoundsException
            char amend(int match, char result) throws IndexOutOfBoundsException, IllegalArgumentException
            int points(int team) throws IllegalArgumentException
            int netRate(int team) throws IllegalArgumentException
            long checksum()
            float extraShare(int innings) throws IndexOutOfBoundsException, ArithmeticException
            double meanRuns(int innings) throws IndexOutOfBoundsException, ArithmeticException
            boolean isSound()
            """;

    private static int wrong = 0;

    private static void check(boolean isRight, String what) {
        if (!isRight) {
            wrong++;
            System.out.println(what);
        }
    }

    /** A method as the document writes it, without the names of its arguments. */
    private static String row(Method method) {
        StringBuilder row = new StringBuilder(method.getReturnType().getSimpleName());
        row.append(' ').append(method.getName()).append('(');
        String comma = "";
        for (Class<?> type : method.getParameterTypes()) {
            row.append(comma).append(type.getSimpleName());
            comma = ", ";
        }
        row.append(')');
        comma = " throws ";
        for (Class<?> type : method.getExceptionTypes()) {
            row.append(comma).append(type.getSimpleName());
            comma = ", ";
        }
        return row.toString();
    }

    private static String withoutNames(String row) {
        return row.replaceAll("(int|char|boolean) \\w+([,)])", "$1$2");
    }

    private static void isPrivate(Member member) {
        if (!member.isSynthetic()) {
            check(Modifier.isPrivate(member.getModifiers()), "not private: " + member);
        }
    }

    public static void main(String[] args) {
        Set<String> wanted = new TreeSet<>();
        for (String row : FACE.strip().split("\n")) {
            wanted.add(withoutNames(row.strip()));
        }
        Set<String> found = new TreeSet<>();
        Set<String> names = new HashSet<>();
        for (Method method : Stumpward.class.getDeclaredMethods()) {
            if (Modifier.isPublic(method.getModifiers())) {
                found.add(row(method));
                names.add(method.getName());
                check(!Modifier.isStatic(method.getModifiers()), "static: " + method);
            } else {
                isPrivate(method);
            }
        }
        check(wanted.size() == 50, "the face has " + wanted.size() + " rows");
        check(found.equals(wanted), "the face is " + found + ", due is " + wanted);
        for (Class<?> inner : Stumpward.class.getDeclaredClasses()) {
            check(!Modifier.isPublic(inner.getModifiers()) && Modifier.isStatic(inner.getModifiers()), "wrong: " + inner);
            for (Method method : inner.getDeclaredMethods()) {
                check(!names.contains(method.getName()), "bears the name of a public one: " + method);
            }
        }
        for (Method method : Stumpward.class.getDeclaredMethods()) {
            boolean isOther = !Modifier.isPublic(method.getModifiers());
            check(!isOther || !names.contains(method.getName()), "bears the name of a public one: " + method);
        }
        for (Member field : Stumpward.class.getDeclaredFields()) {
            isPrivate(field);
        }
        Constructor<?>[] made = Stumpward.class.getDeclaredConstructors();
        check(made.length == 1 && made[0].getParameterCount() == 0 && Modifier.isPublic(made[0].getModifiers()),
                "not the one constructor");
        int kind = Stumpward.class.getModifiers();
        check(Modifier.isPublic(kind) && Modifier.isFinal(kind), "not public and final");
        check(Stumpward.class.getPackageName().isEmpty(), "in a package");
        check(Stumpward.class.getSuperclass() == Object.class, "extends another class");
        System.out.println(wrong == 0 ? "the face is as due" : wrong + " wrong");
        if (wrong != 0) {
            System.exit(1);
        }
    }
}
