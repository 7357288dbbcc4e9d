import java.lang.reflect.InvocationTargetException;
import java.lang.reflect.Method;
import java.util.ArrayList;
import java.util.HashMap;
import java.util.HashSet;
import java.util.List;
import java.util.Map;
import java.util.Set;

/**
 * The boundary cases that the document names, in its order: each argument one below and one above
 * its range and at both ends, what is empty and what is full, and each call that is refused.
 *
 * <p>A run is told by words: "name(arguments)" is a call, "type:4!" types signs, "note:4!" types and
 * notes them, and another word, such as "4!", is typed and told as a ball. A call that is refused is
 * always tested to change nothing, too.
 */
public final class BoundaryTests {
    private static final String ARGUMENT = "throws.IllegalArgumentException";
    private static final String STATE = "throws.IllegalStateException";
    private static final String INDEX = "throws.IndexOutOfBoundsException";
    private static final String NONE = "throws.NoSuchElementException";
    private static final String UNSUPPORTED = "throws.UnsupportedOperationException";
    private static final String ARITHMETIC = "throws.ArithmeticException";

    private static final int MOST_CALLS = 512;
    private static final int LEAST = Integer.MIN_VALUE;
    private static final int MOST = Integer.MAX_VALUE;
    private static final String SIGNS = "nw0123456blx!BCLSHORaz+?pq";

    // A limited match of two overs, and a full match, that nothing has befallen yet.
    private static final String LIMITED = "start(l,2,0,0) ";
    private static final String FULL = "start(f,5,0,0) ";
    private static final String SIX = "0 0 0 0 0 0 ";
    private static final String TEN_OUT = "bowl(0) B B B B B B bowl(1) B B B B ";

    private static final Map<String, Method> METHODS = new HashMap<>();
    private static final List<List<String>> LOOKS = new ArrayList<>();
    private static final List<String> PROBES = new ArrayList<>();
    private static final Set<String> UNCHANGED = new HashSet<>();
    private static final Set<String> ASKED = new HashSet<>();

    private static int passed = 0;
    private static int failed = 0;
    private static int promise = 0;

    /** An object, with the number of its calls, since it answers no more than 512 of them. */
    private static final class Run {
        final Stumpward x = new Stumpward();
        int calls = 0;

        String call(String text) {
            calls++;
            if (calls > MOST_CALLS) {
                throw new IllegalStateException("a run of more than 512 calls");
            }
            int open = text.indexOf('(');
            Method method = METHODS.get(text.substring(0, open));
            ASKED.add(method.getName());
            String[] told = text.substring(open + 1, text.length() - 1).split(",");
            Class<?>[] types = method.getParameterTypes();
            Object[] arguments = new Object[types.length];
            for (int i = 0; i < types.length; i++) {
                arguments[i] = argument(types[i], told[i]);
            }
            try {
                return String.valueOf(method.invoke(x, arguments));
            } catch (InvocationTargetException e) {
                Throwable thrown = e.getCause();
                // What the machine or its library throws by itself bears a message, or has its place elsewhere.
                StackTraceElement[] places = thrown.getStackTrace();
                boolean isOwn = thrown.getMessage() == null && places.length > 0
                        && places[0].getClassName().startsWith("Stumpward");
                return (isOwn ? "throws." : "throws.by.itself.") + thrown.getClass().getSimpleName();
            } catch (IllegalAccessException e) {
                throw new IllegalStateException(e);
            }
        }

        void type(String signs) {
            for (int i = 0; i < signs.length(); i++) {
                call("type(#" + (int) signs.charAt(i) + ")");
            }
        }

        String word(String word) {
            if (word.indexOf('(') >= 0) {
                return call(word);
            }
            if (word.startsWith("type:")) {
                type(word.substring(5));
                return "typed";
            }
            if (word.startsWith("note:")) {
                type(word.substring(5));
                return call("note()");
            }
            type(word);
            return call("ball()");
        }

        Run words(String words) {
            for (String word : words.trim().split(" +")) {
                if (!word.isEmpty() && word(word).startsWith("throws.")) {
                    check(false, "the run '" + words + "' was refused at " + word);
                }
            }
            return this;
        }
    }

    private static Object argument(Class<?> type, String told) {
        if (type == boolean.class) {
            return Boolean.valueOf(told);
        }
        if (type == int.class) {
            return Integer.valueOf(told);
        }
        return told.length() > 1 ? (char) Integer.parseInt(told.substring(1)) : told.charAt(0);
    }

    private static void check(boolean isRight, String what) {
        if (isRight) {
            passed++;
            return;
        }
        failed++;
        String where = "";
        for (StackTraceElement frame : Thread.currentThread().getStackTrace()) {
            if (frame.getClassName().equals("BoundaryTests")) {
                where = where + " " + frame.getLineNumber();
            }
        }
        System.out.println("promise " + promise + ": " + what + ", at lines" + where);
    }

    private static Run made(String before) {
        return new Run().words(before);
    }

    /** The answer of the last word is the one that is due; if it is refused, nothing changes. */
    private static void due(String before, String word, Object want) {
        String got = made(before).word(word);
        check(got.equals(String.valueOf(want)), "'" + before + word + "' answered " + got + ", due is " + want);
        if (String.valueOf(want).startsWith("throws.") && UNCHANGED.add(before + "|" + word)) {
            changesNothing(before, word);
        }
    }

    private static void changesNothing(String before, String word) {
        for (List<String> looks : LOOKS) {
            Run one = made(before);
            one.word(word);
            Run two = made(before);
            compare(one, two, looks, before + word);
        }
        for (String probe : PROBES) {
            Run one = made(before);
            one.word(word);
            Run two = made(before);
            for (String next : probe.split(" ")) {
                String changed = one.word(next);
                String unchanged = two.word(next);
                check(changed.equals(unchanged), "behind '" + before + word + "' " + next + " answered " + changed
                        + ", but " + unchanged + " without " + word);
            }
            compare(one, two, LOOKS.get(0), before + word + " " + probe);
        }
    }

    private static void compare(Run one, Run two, List<String> looks, String what) {
        for (String look : looks) {
            String first = one.call(look);
            String second = two.call(look);
            check(first.equals(second), "'" + what + "' " + look + " answered " + first + " and " + second);
        }
    }

    /** Both runs lead to the same answers, the results of matches aside. */
    private static void same(String first, String second) {
        for (List<String> looks : LOOKS) {
            compare(made(first), made(second), looks, first + "| " + second);
        }
    }

    /** Both runs lead to the same answers, signs of balls aside, now and behind what comes next. */
    private static void alike(String first, String second) {
        for (List<String> looks : LOOKS) {
            List<String> others = new ArrayList<>(looks);
            others.removeIf(look -> look.startsWith("signAt"));
            compare(made(first), made(second), others, first + "| " + second);
        }
        for (String probe : PROBES) {
            Run one = made(first);
            Run two = made(second);
            // Another act comes ahead, since only one of the last balls can still be reviewed.
            for (String next : ("hurt(10) " + probe).split(" ")) {
                String got = one.word(next);
                String want = two.word(next);
                check(got.equals(want), "behind '" + first + "' " + next + " answered " + got + ", but " + want
                        + " behind '" + second + "'");
            }
            compare(one, two, LOOKS.get(0), first + "| " + second + "| " + probe);
        }
    }

    private static String times(int times, String words) {
        return words.repeat(times);
    }

    private static void prepare() {
        for (Method method : Stumpward.class.getDeclaredMethods()) {
            if (java.lang.reflect.Modifier.isPublic(method.getModifiers())) {
                METHODS.put(method.getName(), method);
            }
        }
        List<String> sums = new ArrayList<>(List.of("innings()", "isOn()", "result()", "told()", "striker()", "other()",
                "target()", "checksum()", "isSound()", "firstDiffering()"));
        for (int i = 0; i < 2; i++) {
            for (String name : List.of("reviews", "bonus", "points", "netRate")) {
                sums.add(name + "(" + i + ")");
            }
        }
        List<String> batters = new ArrayList<>();
        List<String> bowlers = new ArrayList<>();
        for (int i = 0; i < 4; i++) {
            for (String name : List.of("team", "runs", "wickets", "balls", "runsBySecond")) {
                sums.add(name + "(" + i + ")");
            }
            for (int j = 0; j < 11; j++) {
                for (String name : List.of("batted", "faced", "state")) {
                    batters.add(name + "(" + i + "," + j + ")");
                }
                for (String what : List.of("b", "r", "w", "m")) {
                    bowlers.add("bowled(" + i + "," + j + "," + what + ")");
                }
            }
        }
        LOOKS.add(sums);
        LOOKS.add(batters);
        LOOKS.add(bowlers);
        LOOKS.add(otherLooks());
        for (int i = 0; i < 11; i++) {
            PROBES.add("bowl(" + i + ")");
        }
        PROBES.addAll(List.of("ball()", "review()", "note()", "clear()", "type:p ball()", "send(5)", "send(10)",
                "retire(true)", "retire(false)", "hurt(0)", "hurt(3)", "miscount(5)", "miscount(6)", "miscount(7)",
                "declare()", "enforce()", "rain(1)", "rain(2)", "time()", "start(l,1,0,0)", "clear() 1",
                "clear() B", "clear() bowl(7) 1 B"));
    }

    private static List<String> otherLooks() {
        List<String> looks = new ArrayList<>();
        for (int i = 0; i < 4; i++) {
            for (String name : List.of("partnership", "resources", "extraShare", "meanRuns")) {
                looks.add(name + "(" + i + ")");
            }
            looks.add("runsBy(" + i + ",0)");
            looks.add("runsBy(" + i + ",1)");
            for (String kind : List.of("n", "w", "b", "l", "p")) {
                looks.add("extras(" + i + "," + kind + ")");
            }
            for (int j = 0; j <= 11; j++) {
                looks.add("fall(" + i + "," + j + ")");
                looks.add("boundaries(" + i + "," + Math.min(j, 10) + ")");
            }
        }
        for (int i = 0; i < 3; i++) {
            looks.add("resultOf(" + i + ")");
            looks.add("signAt(" + i + ",0)");
            looks.add("signAt(" + i + ",1)");
        }
        looks.add("clear()");
        return looks;
    }

    // What is tested with many calls.

    private static void newObject() {
        promise = 1;
        String[] answers = {"innings() 0", "isOn() false", "result() -", "told() 0", "checksum() 0", "isSound() true",
            "bonus(0) 0", "bonus(1) 0", "points(0) 0", "points(1) 0", "netRate(0) 0", "netRate(1) 0", "clear() 0"};
        for (String answer : answers) {
            due("", answer.split(" ")[0], answer.split(" ")[1]);
        }
        for (String call : List.of("striker()", "other()", "target()", "reviews(0)", "reviews(1)", "bowl(0)", "send(2)",
                "retire(true)", "retire(false)", "hurt(0)", "miscount(6)", "declare()", "rain(1)", "time()")) {
            due("", call, STATE);
        }
        for (String call : List.of("team(0)", "runs(0)", "wickets(0)", "balls(0)", "extras(0,n)", "batted(0,0)",
                "faced(0,0)", "boundaries(0,0)", "state(0,0)", "bowled(0,0,b)", "fall(0,1)", "partnership(0)",
                "resources(0)", "signAt(0,0)", "runsBySecond(0)", "runsBy(0,0)", "runsBy(0,1)", "resultOf(0)",
                "amend(0,t)", "extraShare(0)", "meanRuns(0)")) {
            due("", call, INDEX);
        }
        due("", "ball()", ARGUMENT);
        due("", "note()", ARGUMENT);
        due("type:1", "note()", UNSUPPORTED);
        due("", "review()", UNSUPPORTED);
        due("", "enforce()", UNSUPPORTED);
        due("", "firstDiffering()", NONE);
    }

    private static void starting() {
        promise = 2;
        for (String format : List.of("L", "F", "k", "m", "e", "g", "-", "0", "#0", "#255", "#65535")) {
            due("", "start(" + format + ",1,0,0)", ARGUMENT);
        }
        for (int number : new int[] {LEAST, -1, 0, 51, 999, MOST}) {
            due("", "start(l," + number + ",0,0)", ARGUMENT);
        }
        for (int number : new int[] {LEAST, -1, 0, 1000, MOST}) {
            due("", "start(f," + number + ",0,0)", ARGUMENT);
        }
        for (int wrong : new int[] {LEAST, -1, 2, MOST}) {
            for (String format : List.of("l,1,", "f,1,")) {
                due("", "start(" + format + wrong + ",0)", ARGUMENT);
                due("", "start(" + format + "0," + wrong + ")", ARGUMENT);
            }
        }
        for (String right : List.of("l,1,0,0", "l,50,1,1", "f,1,1,0", "f,50,0,0", "f,51,0,0", "f,999,0,1")) {
            due("", "start(" + right + ")", 0);
        }
        due("start(l,1,0,0)", "resources(0)", 72);
        due("start(l,50,1,1)", "resources(0)", 3600);
        for (String on : List.of("start(l,1,0,0) ", "start(f,1,0,0) ")) {
            due(on, "start(l,1,0,0)", STATE);
            due(on, "start(f,999,1,1)", STATE);
            due(on, "start(x,1,0,0)", ARGUMENT);
            due(on, "start(l,51,0,0)", ARGUMENT);
            due(on, "start(f,1000,0,0)", ARGUMENT);
            due(on, "start(l,1,2,0)", ARGUMENT);
            due(on, "start(l,1,0,2)", ARGUMENT);
        }
        String drawn = "start(f,1,0,0) time() ";
        for (int i = 1; i < 12; i++) {
            due(times(i, drawn), "start(f,1,0,0)", i);
            due(times(i, drawn), "start(l,1,0,0)", i);
        }
        due(times(11, drawn) + "start(l,1,0,0)", "start(l,1,0,0)", STATE);
        due(times(12, drawn), "start(l,1,0,0)", STATE);
        due(times(12, drawn), "start(f,999,1,1)", STATE);
        due(times(12, drawn), "start(f,1000,1,1)", ARGUMENT);
        due(times(12, drawn), "start(d,1,1,1)", ARGUMENT);
        due(times(12, drawn), "start(l,1,-1,1)", ARGUMENT);
        // A match that has no result yet is not counted, and a league of 12 is full.
        due(times(11, drawn) + "start(l,1,0,0)", "resultOf(11)", INDEX);
        due(times(12, drawn), "resultOf(11)", "d");
        due(times(12, drawn), "points(0)", 12);
        // A new match begins with nothing of the one before; the buffer is no part of a match.
        String wild = "start(f,1,1,1) bowl(0) 4!q C+? review() note:1 send(7) hurt(3) C review() miscount(7) 2p Rz"
                + " retire(true) declare() ";
        for (String next : List.of("start(l,3,1,0) ", "start(f,3,0,1) ")) {
            same(wild + "time() amend(0,t) " + next, "start(f,1,0,0) time() amend(0,t) " + next);
        }
        due(wild + "time() " + LIMITED, "told()", 0);
        due(wild + "time() " + LIMITED, "bonus(0)", 0);
        due(wild + "time() " + LIMITED, "hurt(3)", "true");
        due(wild + "time() " + LIMITED, "miscount(6)", 6);
        due(wild + "time() " + LIMITED, "send(9)", 2);
        due(wild + "time() " + LIMITED, "review()", UNSUPPORTED);
        due(wild + "time() " + LIMITED + "type:1", "ball()", UNSUPPORTED);
        due(wild + "time() " + LIMITED + "type:1", "note()", UNSUPPORTED);
        due("start(f,1,0,0) bowl(0) C time() start(f,1,0,0)", "review()", UNSUPPORTED);
        due("type:123 start(l,1,0,0)", "clear()", 3);
        nothingLeft();
    }

    /** What one match has told is not there in the next one, each row of the object being used again. */
    private static void nothingLeft() {
        String allHurt = "hurt(0) hurt(1) hurt(2) hurt(3) hurt(4) hurt(5) hurt(6) hurt(7) hurt(8) hurt(9) hurt(10) ";
        String first = "start(f,1,0,0) bowl(0) " + SIX + allHurt + "time() ";
        String second = "start(f,1,0,0) declare() bowl(10) " + SIX + "note:1 " + allHurt + "time() ";
        for (String next : List.of("start(l,3,1,0) ", "start(f,3,0,1) ", "start(f,3,0,1) declare() ")) {
            same(first + next, DONE + next);
            same(second + next, DONE + next);
        }
        for (int player = 0; player < 11; player++) {
            due(first + FULL, "hurt(" + player + ")", "true");
            due(first + FULL, "bowl(" + player + ")", 1);
            due(second + FULL + "declare() ", "hurt(" + player + ")", "true");
            due(second + FULL + "declare() ", "bowl(" + player + ")", 1);
        }
        due(second + LIMITED + "bowl(0) 3 ", "firstDiffering()", NONE);
        due(second + LIMITED + "bowl(0) 3 ", "runsBySecond(0)", 3);
        // Innings that have not begun yet are those of no match, also if the one before had all four.
        String all = "start(f,9,0,1) bowl(0) 6 5 declare() bowl(0) 1 declare() bowl(0) 2 declare() bowl(0) 6 declare() "
                + "amend(0,d) ";
        StringBuilder next = new StringBuilder("start(f,1,0,0) ");
        for (String more : List.of("bowl(2) 1 ", "declare() ", "bowl(2) 3 ", "declare() ", "bowl(2) 1 ", "declare() ")) {
            next.append(more);
            same(all + next, DONE + next);
        }
        due(all + next, "result()", "1");
        // The last ball of the match before is no last act any more, also if it gave the result.
        String byCatch = "start(l,1,0,0) bowl(0) 1 0 0 0 0 0 bowl(0) 0 0 0 0 0 C ";
        due(byCatch, "review()", UNSUPPORTED);
        due(byCatch + "start(l,1,0,0) ", "review()", UNSUPPORTED);
        due(byCatch + "start(f,1,0,0) ", "review()", UNSUPPORTED);
    }

    private static void typing() {
        promise = 3;
        for (int sign = 0; sign <= Character.MAX_VALUE; sign++) {
            String got = new Run().call("type(#" + sign + ")");
            String want = SIGNS.indexOf(sign) >= 0 ? "1" : ARGUMENT;
            check(got.equals(want), "sign " + sign + " answered " + got + ", due is " + want);
        }
        for (String wrong : List.of("7", "/", "y", "o", "m", "v", "c", "k", "#32", "A", "D", "*", "#44",
                "@", "N", "W", "X", "P", "Q", "r", "#0", "#255", "#305")) {
            due("", "type(" + wrong + ")", ARGUMENT);
            due("type:123456", "type(" + wrong + ")", ARGUMENT);
            due("type:nnnnnnnnnnnn", "type(" + wrong + ")", ARGUMENT);
        }
        for (int i = 0; i < 12; i++) {
            due("type:" + times(i, "x"), "type(n)", i + 1);
        }
        for (int i = 0; i < SIGNS.length(); i++) {
            due("type:" + times(12, "x"), "type(#" + (int) SIGNS.charAt(i) + ")", STATE);
        }

        promise = 4;
        due("type:1", "clear()", 1);
        due("type:" + times(12, "x"), "clear()", 12);
        due("type:12 clear()", "clear()", 0);
        due("type:" + times(12, "x") + " clear()", "type(1)", 1);
        due(LIMITED + "bowl(0) type:123 clear() 5", "signAt(0,0)", "5");
        due(LIMITED + "bowl(0) type:123 clear() 5", "signAt(0,1)", NONE);
    }

    private static void texts() {
        promise = 6;
        Set<String> right = new HashSet<>();
        List<String> all = new ArrayList<>();
        for (String kind : List.of("", "n", "w")) {
            for (String runs : runParts()) {
                for (String out : List.of("", "B", "C", "L", "S", "H", "O", "Ra", "Rz")) {
                    for (String end : List.of("", "+", "?", "+?")) {
                        for (String penalty : List.of("", "p", "q")) {
                            String text = kind + runs + out + end + penalty;
                            all.add(text);
                            if (isText(kind, runs, out, end, text)) {
                                right.add(text);
                            }
                        }
                    }
                }
            }
        }
        Set<String> tried = new HashSet<>(all);
        for (String text : right) {
            tried.addAll(neighbours(text));
        }
        for (char first : SIGNS.toCharArray()) {
            tried.add("" + first);
            for (char second : SIGNS.toCharArray()) {
                tried.add("" + first + second);
                for (char third : SIGNS.toCharArray()) {
                    tried.add("" + first + second + third);
                }
            }
        }
        tried.remove("");
        // Without a match a ball that is one is refused with another exception than one that is not.
        Run run = new Run();
        for (String text : tried) {
            if (run.calls > MOST_CALLS - 20) {
                run = new Run();
            }
            String want = right.contains(text) ? STATE : ARGUMENT;
            if (text.length() <= 12) {
                run.type(text);
                String got = run.call("ball()");
                check(got.equals(want), "the text " + text + " answered " + got + ", due is " + want);
                run.call("clear()");
            }
        }
    }

    private static List<String> runParts() {
        List<String> parts = new ArrayList<>(List.of("", "!", "x", "!x"));
        for (String byes : List.of("", "b", "l")) {
            for (char digit = '0'; digit <= '6'; digit++) {
                for (String behind : List.of("", "!", "x", "!x")) {
                    parts.add(byes + digit + behind);
                }
            }
        }
        return parts;
    }

    /** The sentences of the document on words, one after the other. */
    private static boolean isText(String kind, String runs, String out, String end, String text) {
        if (text.isEmpty()) {
            return false;
        }
        boolean areByes = runs.startsWith("b") || runs.startsWith("l");
        boolean isWide = kind.equals("w");
        if (isWide && areByes) {
            return false;
        }
        boolean hasDigit = runs.matches(".*[0-6].*");
        boolean isFour = runs.contains("4");
        boolean isSix = runs.contains("6");
        if (runs.contains("!") && !isFour && !(isSix && !isWide && !areByes)) {
            return false;
        }
        if (runs.contains("x") && (!hasDigit || runs.contains("0") || runs.contains("!"))) {
            return false;
        }
        if (hasDigit && !out.isEmpty() && "BCLSH".contains(out)) {
            return false;
        }
        if (end.contains("+") && !List.of("C", "O", "Ra", "Rz").contains(out)) {
            return false;
        }
        boolean isCatchOrLeg = (out.equals("C") || out.equals("L")) && kind.isEmpty();
        return !end.contains("?") || isCatchOrLeg || List.of("0?", "0?p", "0?q").contains(text);
    }

    private static Set<String> neighbours(String text) {
        Set<String> found = new HashSet<>();
        for (int i = 0; i <= text.length(); i++) {
            for (char sign : SIGNS.toCharArray()) {
                found.add(text.substring(0, i) + sign + text.substring(i));
                if (i < text.length()) {
                    found.add(text.substring(0, i) + sign + text.substring(i + 1));
                }
            }
            if (i < text.length()) {
                found.add(text.substring(0, i) + text.substring(i + 1));
            }
            if (i + 1 < text.length()) {
                found.add(text.substring(0, i) + text.charAt(i + 1) + text.charAt(i) + text.substring(i + 2));
            }
        }
        return found;
    }

    // Bowlers and overs.

    private static final String DONE = "start(f,5,0,0) time() ";

    private static void bowlers() {
        promise = 5;
        for (String before : List.of("", LIMITED, FULL, DONE, LIMITED + "bowl(0) 1 ")) {
            for (int wrong : new int[] {LEAST, -1, 11, MOST}) {
                due(before, "bowl(" + wrong + ")", ARGUMENT);
            }
        }
        due("", "bowl(0)", STATE);
        due("", "bowl(10)", STATE);
        due(DONE, "bowl(0)", STATE);
        due(DONE, "bowl(10)", STATE);
        for (String match : List.of(LIMITED, FULL)) {
            due(match, "bowl(0)", 1);
            due(match, "bowl(10)", 1);
            // An over begins with its first ball, so that one who was only told has begun none.
            due(match + "bowl(0) ", "bowl(0)", 1);
            due(match + "bowl(0) ", "bowl(1)", 1);
            due(match + "bowl(0) bowl(1) " + SIX, "bowl(0)", 1);
            for (String first : List.of("n", "w", "0", "p", "q", "B", "0?")) {
                due(match + "bowl(0) " + first + " ", "bowl(1)", UNSUPPORTED);
                due(match + "bowl(0) " + first + " ", "bowl(0)", 1);
                due(match + "bowl(0) " + first + " hurt(0) ", "bowl(1)", 0);
            }
            // Who bowled the last ball of an over.
            due(match + "bowl(3) " + SIX, "bowl(3)", UNSUPPORTED);
            due(match + "bowl(3) " + SIX, "bowl(4)", 1);
            due(match + "bowl(3) 0 0 0 0 0 ", "bowl(3)", 1);
            due(match + "bowl(3) 0 0 0 hurt(3) bowl(4) 0 0 0 ", "bowl(4)", UNSUPPORTED);
            due(match + "bowl(3) 0 0 0 hurt(3) bowl(4) 0 0 0 ", "bowl(3)", UNSUPPORTED);
            due(match + "bowl(3) 0 0 0 hurt(3) bowl(4) 0 0 0 ", "bowl(5)", 1);
            due(match + "bowl(3) " + SIX + "bowl(4) 0 hurt(4) ", "bowl(3)", UNSUPPORTED);
            due(match + "bowl(3) " + SIX + "bowl(4) 0 hurt(4) ", "bowl(5)", 0);
            // Who is hurt, also if told already.
            due(match + "hurt(3) ", "bowl(3)", UNSUPPORTED);
            due(match + "bowl(3) hurt(3) ", "bowl(3)", UNSUPPORTED);
            due(match + "bowl(3) hurt(3) ", "bowl(4)", 1);
            due(match + "bowl(3) 0 hurt(3) ", "bowl(3)", UNSUPPORTED);
            due(match + "bowl(3) 0 hurt(4) ", "bowl(5)", UNSUPPORTED);
            due(match + "bowl(3) 0 hurt(4) hurt(3) ", "bowl(4)", UNSUPPORTED);
            due(match + "bowl(3) 0 hurt(3) bowl(4) ", "bowl(5)", UNSUPPORTED);
            due(match + "bowl(3) 0 hurt(3) bowl(4) ", "bowl(4)", 0);
            due(match + "bowl(3) 0 hurt(3) bowl(4) hurt(4) ", "bowl(5)", 0);
        }
        // In another innings nothing of this is left.
        due(FULL + "hurt(3) bowl(4) " + SIX + "declare() ", "bowl(3)", 1);
        due(FULL + "hurt(3) bowl(4) " + SIX + "declare() ", "bowl(4)", 1);
        mostOvers();
        hurting();
        miscounting();
    }

    /** As many overs by the players 0 and 1, in turn. */
    private static String turns(int overs) {
        StringBuilder words = new StringBuilder();
        for (int i = 0; i < overs; i++) {
            words.append("bowl(").append(i % 2).append(") ").append(SIX);
        }
        return words.toString();
    }

    private static void mostOvers() {
        int[][] limits = {{3, 1}, {4, 1}, {5, 1}, {6, 2}, {9, 2}, {10, 2}, {11, 3}, {15, 3}, {16, 4}, {45, 9}, {46, 10},
            {50, 10}};
        for (int[] limit : limits) {
            String start = "start(l," + limit[0] + ",0,0) ";
            int most = limit[1];
            due(start + turns(2 * most - 2), "bowl(0)", most);
            due(start + turns(2 * most), "bowl(0)", UNSUPPORTED);
            due(start + turns(2 * most), "bowl(2)", 1);
        }
        // A full match has no such limit.
        due(FULL + turns(22), "bowl(0)", 12);
        // The limit is a fifth of the overs told for the match, whatever rain takes.
        due("start(l,10,0,0) rain(5) " + turns(2), "bowl(0)", 2);
        due("start(l,10,0,0) rain(5) " + turns(4), "bowl(0)", UNSUPPORTED);
        // Who comes in within an over begins none, not even with the limit reached.
        due("start(l,3,0,0) bowl(0) 0 hurt(0) bowl(2) 0 0 0 0 0 bowl(1) " + SIX, "bowl(2)", 1);
        due("start(l,4,0,0) " + turns(2) + "bowl(2) " + SIX + "bowl(3) 0 hurt(3) ", "bowl(0)", 1);
        due("start(l,4,0,0) " + turns(2) + "bowl(2) " + SIX + "bowl(3) hurt(3) ", "bowl(0)", UNSUPPORTED);
        // One ball makes an over that one has begun.
        due("start(l,5,0,0) bowl(0) w hurt(0) bowl(1) " + SIX + "bowl(2) " + SIX, "bowl(1)", 1);
        due("start(l,5,0,0) bowl(0) " + SIX + "bowl(1) w hurt(1) bowl(2) " + SIX + "bowl(3) " + SIX, "bowl(0)",
                UNSUPPORTED);
    }

    private static void hurting() {
        promise = 10;
        for (String before : List.of("", LIMITED, FULL, DONE)) {
            for (int wrong : new int[] {LEAST, -1, 11, MOST}) {
                due(before, "hurt(" + wrong + ")", ARGUMENT);
            }
        }
        due("", "hurt(0)", STATE);
        due(DONE, "hurt(10)", STATE);
        for (int right : new int[] {0, 1, 10}) {
            due(LIMITED, "hurt(" + right + ")", "true");
            due(LIMITED + "hurt(" + right + ") ", "hurt(" + right + ")", "false");
            due(LIMITED + "hurt(5) ", "hurt(" + right + ")", "true");
            due(FULL + "hurt(" + right + ") declare() ", "hurt(" + right + ")", "true");
            due(FULL + "hurt(" + right + ") declare() declare() ", "hurt(" + right + ")", "true");
        }
        due(LIMITED + times(10, "hurt(4) ") + "hurt(0) hurt(1) hurt(2) hurt(3) hurt(5) hurt(6) hurt(7) hurt(8) hurt(9) ",
                "bowl(10)", 1);
        due(LIMITED + "hurt(0) hurt(1) hurt(2) hurt(3) hurt(4) hurt(5) hurt(6) hurt(7) hurt(8) hurt(9) hurt(10) ",
                "bowl(10)", UNSUPPORTED);
        promise = 6;
        due(LIMITED + "bowl(3) hurt(3) type:1", "ball()", UNSUPPORTED);
        due(LIMITED + "bowl(3) 1 hurt(3) type:1", "ball()", UNSUPPORTED);
        due(LIMITED + "bowl(3) hurt(4) type:1", "ball()", 1);
        due(LIMITED + "bowl(3) hurt(3) bowl(4) type:1", "ball()", 1);
    }

    private static void miscounting() {
        promise = 11;
        for (String before : List.of("", LIMITED, FULL, DONE)) {
            for (int wrong : new int[] {LEAST, -1, 0, 4, 8, MOST}) {
                due(before, "miscount(" + wrong + ")", ARGUMENT);
            }
        }
        for (int right = 5; right <= 7; right++) {
            due("", "miscount(" + right + ")", STATE);
            due(DONE, "miscount(" + right + ")", STATE);
            due(LIMITED, "miscount(" + right + ")", 6);
            due(LIMITED + "bowl(0) 0 0 0 0 ", "miscount(" + right + ")", 6);
            for (int was = 5; was <= 7; was++) {
                due(LIMITED + "miscount(" + was + ") ", "miscount(" + right + ")", was);
                due(FULL + "miscount(" + was + ") declare() ", "miscount(" + right + ")", 6);
            }
        }
        // More than it has by now; balls that do not count are none.
        due(LIMITED + "bowl(0) 0 0 0 0 0 ", "miscount(5)", ARGUMENT);
        due(LIMITED + "bowl(0) 0 0 0 0 0 ", "miscount(6)", 6);
        due(LIMITED + "bowl(0) 0 0 0 0 0 ", "miscount(7)", 6);
        due(LIMITED + "bowl(0) 0 0 0 0 n w ", "miscount(5)", 6);
        due(LIMITED + "bowl(0) n n n w w w 0 0 0 0 ", "miscount(5)", 6);
        due(LIMITED + "miscount(7) bowl(0) " + SIX, "miscount(6)", ARGUMENT);
        due(LIMITED + "miscount(7) bowl(0) " + SIX, "miscount(5)", ARGUMENT);
        due(LIMITED + "miscount(7) bowl(0) " + SIX, "miscount(7)", 7);
        // The over is over behind so many, and the next one has 6 again.
        for (int length = 5; length <= 7; length++) {
            String over = LIMITED + "miscount(" + length + ") bowl(0) " + times(length - 1, "0 ");
            due(over, "striker()", 0);
            due(over, "bowl(1)", UNSUPPORTED);
            due(over + "n w ", "striker()", 0);
            due(over + "0 ", "striker()", 1);
            due(over + "0 type:0", "ball()", UNSUPPORTED);
            due(over + "0 ", "miscount(6)", 6);
            due(over + "0 bowl(1) 0 0 0 0 0 ", "isOn()", "true");
            due(over + "0 bowl(1) 0 0 0 0 0 ", "innings()", 1);
            due(over + "0 bowl(1) " + SIX, "innings()", 2);
            due(over + "0 bowl(1) " + SIX, "balls(0)", length + 6);
        }
        due(LIMITED + "bowl(0) 0 0 0 0 miscount(5) 0 ", "striker()", 1);
        due(LIMITED + "bowl(0) " + SIX + "miscount(7) bowl(1) " + SIX, "innings()", 1);
        due(LIMITED + "bowl(0) " + SIX + "miscount(7) bowl(1) " + SIX + "0 ", "innings()", 2);
    }

    private static void balls() {
        promise = 6;
        for (String before : List.of("", LIMITED, LIMITED + "bowl(0) ", DONE)) {
            for (String wrong : List.of("", "type:b", "type:11", "type:1B", "type:" + times(12, "p"), "type:nw")) {
                due(before + wrong, "ball()", ARGUMENT);
            }
        }
        due("type:1", "ball()", STATE);
        due(DONE + "type:1", "ball()", STATE);
        due("start(l,1,0,0) bowl(0) " + SIX + "bowl(0) 1 type:1", "ball()", STATE);
        due(LIMITED + "type:1", "ball()", UNSUPPORTED);
        due(LIMITED + "bowl(0) " + SIX + "type:1", "ball()", UNSUPPORTED);
        due(LIMITED + "bowl(0) 0 0 0 0 0 type:1", "ball()", 1);
        due("start(l,1,0,0) bowl(0) " + SIX + "type:1", "ball()", UNSUPPORTED);
        due(FULL + "bowl(0) 0 declare() type:1", "ball()", UNSUPPORTED);
        due(FULL + "bowl(0) declare() type:1", "ball()", UNSUPPORTED);
        String[] given = {"0 0 0", "1 1 1", "6 6 6", "4! 4 4", "6! 6 6", "1x 0 0", "6x 5 5", "n 1 2", "n0 1 2", "n6! 7 8",
            "nb6 7 8", "nl4! 5 6", "nb1x 1 2", "w 1 1", "w0 1 1", "w6 7 7", "w4! 5 5", "w1x 1 1", "b0 0 0", "b6 6 6",
            "l6x 5 5", "p 5 5", "q 0 0", "np 6 7", "w6p 12 12", "nb4!Ra+p 10 11", "B 0 0", "Cp 5 5", "0?p 5 5",
            "L?q 0 0", "nB 1 2", "wS 1 1"};
        for (String row : given) {
            String[] parts = row.split(" ");
            due("start(l,2,0,0) bowl(0) ", parts[0], parts[1]);
            due("start(l,2,1,0) bowl(0) ", parts[0], parts[2]);
            due("start(l,2,0,0) bowl(0) " + parts[0] + " ", "clear()", 0);
            due("start(l,2,0,0) bowl(0) " + parts[0] + " ", "runs(0)", parts[1]);
            due("start(f,2,1,0) bowl(0) " + parts[0] + " ", "runs(0)", parts[2]);
        }
    }

    // The laws of a ball.

    private static final String BOWLS = "start(l,2,0,0) bowl(0) ";
    private static final String BOWLS_LATER = "start(l,2,1,0) bowl(0) ";

    private static void ends() {
        promise = 24;
        // Both change ends if the digit is odd, 1 less with x or not, but not over the boundary.
        for (int digit = 0; digit <= 6; digit++) {
            int striker = digit % 2;
            for (String ahead : List.of("", "n", "w", "b", "l", "nb", "nl")) {
                due(BOWLS + ahead + digit + " ", "striker()", striker);
                due(BOWLS + ahead + digit + " ", "other()", 1 - striker);
                if (digit > 0) {
                    due(BOWLS + ahead + digit + "x ", "striker()", striker);
                }
            }
        }
        for (String text : List.of("4!", "6!", "w4!", "b4!", "n", "w", "p", "q", "np")) {
            due(BOWLS + text + " ", "striker()", 0);
        }
        // Behind the over they change once more.
        for (int digit = 0; digit <= 6; digit++) {
            due(BOWLS + "0 0 0 0 0 " + digit + " ", "striker()", 1 - digit % 2);
        }
        due(BOWLS + "0 0 0 0 0 n1 ", "striker()", 1);
        due(BOWLS + "0 0 0 0 0 B ", "striker()", 1);
        due(BOWLS + "0 0 0 0 0 B ", "other()", 2);
        for (String call : List.of("striker()", "other()")) {
            due("", call, STATE);
            due(DONE, call, STATE);
            due("start(l,1,0,0) bowl(0) " + SIX + "bowl(0) 1 ", call, STATE);
        }
        crossings();
    }

    /** Each row: a text, then the ends by both versions, the striker ahead. */
    private static void crossings() {
        String[] rows = {"B 21 21", "C 21 21", "C+ 12 21", "L 21 21", "S 21 21", "H 21 21", "O 21 21", "O+ 12 12",
            "Ra 21 21", "Ra+ 12 12", "Rz 02 02", "Rz+ 20 20", "1Ra 12 12", "1Ra+ 21 21", "1Rz 20 20", "1Rz+ 02 02",
            "1O 12 12", "1O+ 21 21", "2Rz+ 20 20", "4!O+ 12 12", "3xRa 12 12", "b1Rz 20 20", "nRa+ 12 12", "wRz+ 20 20",
            "nO+ 12 12", "w1O+ 21 21", "nB 01 01", "nC 01 01", "nC+ 01 01", "nL 01 01", "nS 01 01", "nH 01 01",
            "wB 01 01", "wC 01 01", "wC+ 01 01", "wL 01 01", "wS 21 21", "wH 21 21", "C? 01 01", "C+? 01 01", "L? 01 01",
            "0? 21 21", "0 01 01"};
        for (String row : rows) {
            String[] parts = row.split(" ");
            String[] starts = {BOWLS, BOWLS_LATER};
            for (int version = 0; version < 2; version++) {
                String ball = starts[version] + parts[0] + " ";
                due(ball, "striker()", parts[version + 1].charAt(0));
                due(ball, "other()", parts[version + 1].charAt(1));
                due(ball, "wickets(0)", parts[1].contains("2") ? 1 : 0);
            }
        }
        // Who is out is the one who was there as the ball was bowled.
        due(BOWLS + "1Ra ", "state(0,0)", "R");
        due(BOWLS + "1Rz ", "state(0,1)", "R");
        due(BOWLS + "1O ", "state(0,0)", "O");
        due(BOWLS + "1Rz ", "state(0,0)", "i");
        // Put right, a catch with + is a catch with + that the umpire saw.
        due(BOWLS + "C+? review() ", "striker()", 1);
        due(BOWLS_LATER + "C+? review() ", "striker()", 2);
    }

    /** Each row: a text, then who faced it, the bowler's runs, wickets and balls, the boundary, runs of the striker. */
    private static void figuresOfBalls() {
        String[] rows = {"0 1 0 0 1 0 0", "1 1 1 0 1 0 1", "6! 1 6 0 1 1 6", "4! 1 4 0 1 1 4", "4 1 4 0 1 0 4",
            "6 1 6 0 1 0 6", "1x 1 0 0 1 0 0", "b4! 1 0 0 1 0 0", "l4! 1 0 0 1 0 0", "b1 1 0 0 1 0 0",
            "n4! 1 5 0 0 1 4", "n6! 1 7 0 0 1 6", "n 1 1 0 0 0 0", "nb4! 1 1 0 0 0 0", "nl4! 1 1 0 0 0 0",
            "w 0 1 0 0 0 0", "w4! 0 5 0 0 0 0", "w6 0 7 0 0 0 0", "p 1 0 0 1 0 0", "q 1 0 0 1 0 0", "np 1 1 0 0 0 0",
            "wq 0 1 0 0 0 0", "B 1 0 1 1 0 0", "C 1 0 1 1 0 0", "L 1 0 1 1 0 0", "S 1 0 1 1 0 0", "H 1 0 1 1 0 0",
            "O 1 0 0 1 0 0", "Ra 1 0 0 1 0 0", "Rz 1 0 0 1 0 0", "nB 1 1 0 0 0 0", "nS 1 1 0 0 0 0", "nRa 1 1 0 0 0 0",
            "wS 0 1 1 0 0 0", "wH 0 1 1 0 0 0", "wO 0 1 0 0 0 0", "wC 0 1 0 0 0 0", "C? 1 0 0 1 0 0", "0? 1 0 1 1 0 0"};
        for (String row : rows) {
            String[] parts = row.split(" ");
            String ball = BOWLS + parts[0] + " ";
            promise = 27;
            due(ball, "faced(0,0)", parts[1]);
            due(ball, "faced(0,1)", 0);
            promise = 30;
            due(ball, "bowled(0,0,r)", parts[2]);
            due(ball, "bowled(0,0,w)", parts[3]);
            due(ball, "bowled(0,0,b)", parts[4]);
            due(ball, "bowled(0,1,b)", 0);
            promise = 20;
            due(ball, "balls(0)", parts[4]);
            promise = 28;
            due(ball, "boundaries(0,0)", parts[5]);
            promise = 26;
            due(ball, "batted(0,0)", parts[6]);
        }
        due(BOWLS_LATER + "n4! ", "bowled(0,0,r)", 6);
        due(BOWLS + "C? review() ", "bowled(0,0,w)", 1);
        due(BOWLS + "0? review() ", "bowled(0,0,w)", 0);
        maidens();
    }

    private static void maidens() {
        promise = 30;
        String over = "start(f,5,0,0) bowl(0) ";
        due(over + "0 0 0 0 0 ", "bowled(0,0,m)", 0);
        due(over + SIX, "bowled(0,0,m)", 1);
        due(over + "b1 l1 p q B O ", "bowled(0,0,m)", 1);
        for (String given : List.of("1", "2x", "4!", "n 0", "w 0")) {
            due(over + "0 " + given + " 0 0 0 0 ", "bowled(0,0,m)", 0);
            due(over + "0 0 0 0 " + given + " 0 bowl(1) 0 ", "bowled(0,0,m)", 0);
        }
        due(over + "1x 0 0 0 0 0 ", "bowled(0,0,m)", 1);
        due("start(f,5,0,0) miscount(5) bowl(0) 0 0 0 0 0 ", "bowled(0,0,m)", 1);
        due("start(f,5,0,0) miscount(7) bowl(0) " + SIX, "bowled(0,0,m)", 0);
        due("start(f,5,0,0) miscount(7) bowl(0) " + SIX + "0 ", "bowled(0,0,m)", 1);
        // Both of a split over have not bowled all balls; an over without end is none.
        due(over + "0 0 0 hurt(0) bowl(1) 0 0 0 ", "bowled(0,0,m)", 0);
        due(over + "0 0 0 hurt(0) bowl(1) 0 0 0 ", "bowled(0,1,m)", 0);
        due(over + "hurt(0) bowl(1) " + SIX, "bowled(0,1,m)", 1);
        due(over + "0 0 0 bowl(0) 0 0 0 ", "bowled(0,0,m)", 1);
        due(over + "0 0 0 0 0 declare() ", "bowled(0,0,m)", 0);
        due(over + "B B B B B B bowl(1) B B B B ", "bowled(0,1,m)", 0);
        due(over + "B B B B 0 0 bowl(1) B B B B B B ", "bowled(0,1,m)", 1);
        due(over + SIX + "bowl(1) " + SIX + "bowl(0) " + SIX, "bowled(0,0,m)", 2);
        due("start(l,1,0,0) bowl(0) " + SIX, "bowled(0,0,m)", 1);
        // A ball that is put right leaves the over as it was.
        due(over + "0 0 0 0 0 0? review() ", "bowled(0,0,m)", 1);
        due(over + "n 0 0 0 0 0 0? review() ", "bowled(0,0,m)", 0);
    }

    // Batters.

    private static void batters() {
        promise = 8;
        for (String before : List.of("", LIMITED, FULL, DONE)) {
            for (int wrong : new int[] {LEAST, -1, 11, MOST}) {
                due(before, "send(" + wrong + ")", ARGUMENT);
            }
        }
        due("", "send(0)", STATE);
        due("", "send(10)", STATE);
        due(DONE, "send(2)", STATE);
        for (String match : List.of(LIMITED, FULL)) {
            due(match, "send(0)", UNSUPPORTED);
            due(match, "send(1)", UNSUPPORTED);
            for (int right = 2; right <= 10; right++) {
                due(match, "send(" + right + ")", 2);
                due(match + "send(" + right + ") ", "send(3)", right);
                due(match + "send(" + right + ") bowl(0) B ", "striker()", right);
                due(match + "send(" + right + ") bowl(0) B ", "send(" + right + ")", UNSUPPORTED);
                due(match + "send(" + right + ") ", "retire(true)", right);
            }
        }
        due(FULL + "send(9) bowl(0) B B ", "striker()", 2);
        due(FULL + "bowl(0) B ", "send(0)", UNSUPPORTED);
        due(FULL + "retire(true) ", "send(0)", UNSUPPORTED);
        due(FULL + "bowl(0) B B B B B B bowl(1) B B ", "send(10)", 10);
        due(FULL + "bowl(0) B B B B B B bowl(1) B B B ", "send(10)", UNSUPPORTED);
        due(FULL + "send(9) declare() ", "send(9)", 2);

        promise = 9;
        for (String striker : List.of("true", "false")) {
            String call = "retire(" + striker + ")";
            due("", call, STATE);
            due(DONE, call, STATE);
            due(LIMITED, call, 2);
            due(FULL + "bowl(0) B B B B B B bowl(1) B B ", call, 10);
            // Nine are out and two are in, so that nobody is there to come but who would retire.
            due(FULL + "bowl(0) B B B B B B bowl(1) B B B ", call, UNSUPPORTED);
            due(FULL + "retire(true) bowl(0) B B B B B B bowl(1) B B ", call, 0);
            due(FULL + "retire(true) bowl(0) B B B B B B bowl(1) B B B ", call, UNSUPPORTED);
            due(FULL + "retire(true) retire(true) bowl(0) B B B B B B bowl(1) B ", call, 0);
            due(FULL + "retire(true) retire(true) bowl(0) B B B B B B bowl(1) B " + call + " ", call, 2);
        }
        String noneFresh = FULL + times(9, "retire(true) ");
        due(noneFresh, "retire(true)", 0);
        due(noneFresh, "retire(false)", 0);
        due(noneFresh + "retire(false) ", "retire(false)", 1);
        due(noneFresh + "retire(true) ", "retire(true)", 2);
        due(noneFresh, "send(0)", UNSUPPORTED);
        due(LIMITED + "retire(true) ", "state(0,0)", "r");
        due(LIMITED + "retire(true) ", "striker()", 2);
        due(LIMITED + "retire(false) ", "other()", 2);
        due(LIMITED + "retire(true) ", "wickets(0)", 0);
        due(noneFresh + "retire(true) ", "state(0,0)", "i");
        due(noneFresh + "bowl(0) B ", "striker()", 0);

        promise = 29;
        due(LIMITED, "state(0,0)", "i");
        due(LIMITED, "state(0,1)", "i");
        due(LIMITED, "state(0,2)", "-");
        due(LIMITED, "state(0,10)", "-");
        for (String how : List.of("B", "C", "L", "S", "H", "O", "wS", "wH", "nO", "wO", "C+", "O+")) {
            due(BOWLS + how + " ", "state(0,0)", how.replace("+", "").charAt(how.replace("+", "").length() - 1));
        }
        due(BOWLS + "Ra ", "state(0,0)", "R");
        due(BOWLS + "Rz ", "state(0,1)", "R");
        due(BOWLS + "0? ", "state(0,0)", "L");
        due(BOWLS + "0? review() ", "state(0,0)", "i");
        due(BOWLS + "C? ", "state(0,0)", "i");
        due(BOWLS + "C? review() ", "state(0,0)", "C");
        due(BOWLS + "L? review() ", "state(0,0)", "L");
        due(FULL + TEN_OUT, "state(0,1)", "B");
        due(FULL + TEN_OUT, "state(0,7)", "i");
        due(FULL + TEN_OUT, "state(0,10)", "B");
    }

    // Reviews.

    private static void reviews() {
        promise = 7;
        due("", "review()", UNSUPPORTED);
        due(LIMITED, "review()", UNSUPPORTED);
        due(DONE, "review()", UNSUPPORTED);
        for (String text : List.of("0", "1", "6!", "B", "S", "H", "O", "O+", "Ra", "Rz+", "p", "0p", "n", "w", "nC",
                "nC+", "nL", "wC", "wL", "wC+", "wS")) {
            due(BOWLS + text + " ", "review()", UNSUPPORTED);
        }
        for (String text : List.of("C", "C+", "L", "Cp", "C+q", "Lp", "Lq")) {
            due(BOWLS + text + " ", "review()", "false");
            due(BOWLS + text + " review() ", "review()", UNSUPPORTED);
            due(BOWLS + text + " review() ", "reviews(0)", 1);
            due(BOWLS + text + " review() ", "reviews(1)", 2);
            due(BOWLS + text + " review() ", "wickets(0)", 1);
        }
        for (String text : List.of("C?", "C+?", "L?", "0?", "C?p", "C+?q", "L?p", "0?p", "0?q")) {
            due(BOWLS + text + " ", "review()", "true");
            due(BOWLS + text + " review() ", "review()", UNSUPPORTED);
            due(BOWLS + text + " review() ", "reviews(0)", 2);
            due(BOWLS + text + " review() ", "reviews(1)", 2);
            due(BOWLS + text + " review() ", "wickets(0)", text.startsWith("0") ? 0 : 1);
            due(BOWLS + text + " review() ", "runs(0)", text.endsWith("p") ? 5 : 0);
            due(BOWLS + text + " review() ", "bonus(1)", text.endsWith("q") ? 5 : 0);
            due(BOWLS + text + " review() ", "balls(0)", 1);
            due(BOWLS + text + " review() ", "told()", 1);
            due(BOWLS + text + " review() ", "signAt(0,1)", text.charAt(1));
            due(BOWLS + text + " note:1 review() ", "firstDiffering()", 0);
        }
        actsBehind();
        reviewsLeft();
        backAgain();
        putRight();
    }

    /** The umpire erred: all is as if there had been no ?, wherever in an over or innings this was. */
    private static void putRight() {
        String nineOut = "bowl(0) B B B B B B bowl(1) B B B ";
        String extra = "start(l,1,1,0) bowl(0) " + SIX + "bowl(0) " + SIX;
        List<String> befores = List.of(BOWLS, BOWLS_LATER + "n 1 ", BOWLS + "send(7) 2 q ", BOWLS + "send(7) retire(true) p ",
                BOWLS + "0 0 0 0 0 ", BOWLS + "1 0 hurt(0) bowl(2) 0 0 0 ", LIMITED + turns(1) + "bowl(1) ",
                LIMITED + turns(1) + "send(9) bowl(1) 0 0 0 0 0 ", LIMITED + "miscount(5) bowl(0) 0 0 0 0 ",
                LIMITED + "miscount(7) bowl(0) " + SIX, "start(l,3,0,1) rain(1) bowl(4) 3 B q 0 0 ",
                "start(l,2,0,0) bowl(0) 6 6 6 6 0 q bowl(1) " + SIX + "bowl(3) 0 rain(1) 1 0 0 0 ", FULL + nineOut,
                FULL + "bowl(0) 6! declare() " + nineOut, FULL + "bowl(0) 6! declare() declare() enforce() " + nineOut,
                FULL + "bowl(0) 6!q declare() declare() declare() bowl(5) 1 B ", extra + "bowl(0) B ",
                extra + "bowl(0) 0 0 0 0 0 ", extra + "bowl(0) 5 0 0 0 0 0 bowl(3) 1 B ");
        for (String before : befores) {
            for (String text : List.of("C", "C+", "L", "Cp", "Lp", "C+q", "Lq")) {
                String erring = text.length() > 1 && text.charAt(1) != '+' ? text.charAt(0) + "?" + text.charAt(1)
                        : text.startsWith("C+") ? "C+?" + text.substring(2) : text + "?";
                righted(before, erring, text);
            }
            righted(before, "0?", "0");
            righted(before, "0?p", "0p");
            righted(before, "0?q", "0q");
        }
    }

    private static void righted(String before, String erring, String text) {
        // With a result no ball can be reviewed: such a row is one of the other tests.
        if (made(before + erring).call("isOn()").equals("true")) {
            due(before + erring + " ", "review()", "true");
            alike(before + erring + " review() ", before + text + " ");
        }
    }

    private static void actsBehind() {
        // Any act is the last one then, also one that changes nothing; typing, clearing and noting are none.
        for (String ball : List.of("C ", "C? ", "0? ")) {
            for (String act : List.of("bowl(0) ", "send(9) ", "retire(true) ", "retire(false) ", "hurt(9) ",
                    "miscount(6) ", "miscount(7) ", "rain(1) ", "1 ")) {
                due(BOWLS + ball + act, "review()", UNSUPPORTED);
            }
            due("start(f,5,0,0) bowl(0) " + ball + "declare() ", "review()", UNSUPPORTED);
            due("start(f,5,0,0) bowl(0) " + ball + "time() ", "review()", UNSUPPORTED);
            String answer = ball.contains("?") ? "true" : "false";
            for (String none : List.of("type:1 ", "clear() ", "note:4! ", "note:B ", "type:" + times(12, "x") + " clear() ",
                    "innings() runs(0) runsBySecond(0) runsBy(0,1) isSound() ")) {
                due(BOWLS + ball + none, "review()", answer);
            }
        }
        due("start(f,3,0,0) bowl(0) 3 declare() bowl(0) B B B B B B bowl(1) B B B C enforce() ", "review()", UNSUPPORTED);
        due("start(f,3,0,0) bowl(0) 3 declare() bowl(0) B B B B B B bowl(1) B B B C ", "review()", "false");
    }

    private static void reviewsLeft() {
        due(BOWLS + "C review() L ", "review()", "false");
        due(BOWLS + "C review() L review() ", "reviews(0)", 0);
        due(BOWLS + "C review() L review() ", "reviews(1)", 2);
        for (String against : List.of("C", "L", "0?", "C+", "0?p")) {
            due(BOWLS + "C review() L review() " + against + " ", "review()", UNSUPPORTED);
        }
        // The other team still has its own.
        for (String against : List.of("C?", "L?")) {
            due(BOWLS + "C review() L review() " + against + " ", "review()", "true");
        }
        due(BOWLS + times(5, "L? review() "), "review()", UNSUPPORTED);
        due(BOWLS + times(5, "0? review() ") + "0? ", "review()", "true");
        due(BOWLS + times(5, "0? review() ") + "0? review() ", "reviews(0)", 2);
        promise = 36;
        for (String before : List.of("", LIMITED, DONE)) {
            for (int wrong : new int[] {LEAST, -1, 2, MOST}) {
                due(before, "reviews(" + wrong + ")", ARGUMENT);
            }
        }
        for (int team = 0; team < 2; team++) {
            due("", "reviews(" + team + ")", STATE);
            due(DONE, "reviews(" + team + ")", STATE);
            due(LIMITED, "reviews(" + team + ")", 2);
            due(FULL + "bowl(0) C review() C review() declare() ", "reviews(" + team + ")", 2);
            due(FULL + "bowl(0) C review() declare() declare() ", "reviews(" + team + ")", 2);
        }
    }

    private static void backAgain() {
        promise = 7;
        // The review is of the innings of the ball, also if that has ended the innings.
        String nine = FULL + "bowl(0) B B B B B B bowl(1) B B B ";
        due(nine + "0? ", "innings()", 2);
        due(nine + "0? review() ", "innings()", 1);
        due(nine + "0? review() ", "wickets(0)", 9);
        due(nine + "0? review() ", "striker()", 10);
        due(nine + "L? ", "innings()", 1);
        due(nine + "L? review() ", "innings()", 2);
        due(nine + "C ", "review()", "false");
        due(nine + "C review() ", "reviews(0)", 2);
        String lost = FULL + "bowl(0) C review() C review() B B B B bowl(1) B B B ";
        due(lost + "C ", "review()", UNSUPPORTED);
        due(lost + "0? ", "review()", UNSUPPORTED);
        due(lost + "0? ", "reviews(0)", 2);
        due(LIMITED + turns(1) + "bowl(1) 0 0 0 0 0 C? ", "review()", "true");
        due(LIMITED + turns(1) + "bowl(1) 0 0 0 0 0 C? ", "innings()", 2);
        due(LIMITED + turns(1) + "bowl(1) 0 0 0 0 0 C? review() ", "innings()", 2);
        due(LIMITED + turns(1) + "bowl(1) 0 0 0 0 0 C? review() ", "wickets(0)", 1);
        // Not with a result, whoever could gain by it.
        String chase = "start(l,1,0,0) bowl(0) 1 0 0 0 0 0 bowl(0) 1 0 0 0 0 ";
        due(chase + "C? ", "result()", "t");
        due(chase + "C? ", "review()", UNSUPPORTED);
        due(chase + "0? ", "review()", UNSUPPORTED);
        due(chase + "Cp ", "review()", UNSUPPORTED);
        // In the version 1 the tie goes on, and the ball can be reviewed.
        String later = "start(l,1,1,0) bowl(0) 1 0 0 0 0 0 bowl(0) 1 0 0 0 0 ";
        due(later + "C? ", "innings()", 3);
        due(later + "C? ", "review()", "true");
        due(later + "C? review() ", "wickets(1)", 1);
        due(later + "C? review() ", "innings()", 3);
        due(later + "C ", "review()", "false");
        // The end of an extra over, put right, goes on.
        String extra = "start(l,1,1,0) " + "bowl(0) " + SIX + "bowl(0) " + SIX + "bowl(0) B ";
        due(extra + "0? ", "innings()", 4);
        due(extra + "0? review() ", "innings()", 3);
        due(extra + "0? review() ", "wickets(2)", 1);
    }

    // Innings that end, rain and time.

    private static void declaring() {
        promise = 12;
        due("", "declare()", STATE);
        due(DONE, "declare()", STATE);
        due("start(l,1,0,0) rain(1) ", "declare()", STATE);
        due(LIMITED, "declare()", UNSUPPORTED);
        due(BOWLS + "6! ", "declare()", UNSUPPORTED);
        due(LIMITED + turns(2), "declare()", UNSUPPORTED);
        due(FULL, "declare()", 0);
        due(FULL + "bowl(0) 6!p ", "declare()", 11);
        due(FULL + "bowl(0) 6! declare() ", "declare()", 0);
        for (int declared = 1; declared <= 3; declared++) {
            due(FULL + times(declared, "declare() "), "innings()", declared + 1);
            due(FULL + times(declared, "declare() "), "isOn()", "true");
            due(FULL + times(declared, "declare() "), "result()", "-");
        }
        due(FULL + times(4, "declare() "), "isOn()", "false");
        due(FULL + times(4, "declare() "), "innings()", 4);
        due(FULL + times(4, "declare() "), "result()", "t");
        due(FULL + times(4, "declare() "), "declare()", STATE);
        // Ten out end an innings, nine do not.
        due(FULL + "bowl(0) B B B B B B bowl(1) B B B ", "innings()", 1);
        due(FULL + TEN_OUT, "innings()", 2);
        due(FULL + TEN_OUT, "wickets(0)", 10);
        due(FULL + TEN_OUT, "wickets(1)", 0);
        enforcing();
    }

    private static void enforcing() {
        promise = 13;
        due("", "enforce()", UNSUPPORTED);
        due(DONE, "enforce()", UNSUPPORTED);
        due("start(l,1,0,0) bowl(0) 6! " + SIX.substring(2) + "bowl(0) 0 ", "enforce()", UNSUPPORTED);
        due("start(l,1,1,0) bowl(0) " + SIX + "bowl(0) " + SIX, "enforce()", UNSUPPORTED);
        due(FULL + "bowl(0) 6! ", "enforce()", UNSUPPORTED);
        due(FULL + "bowl(0) 6! declare() ", "enforce()", UNSUPPORTED);
        due(FULL + "bowl(0) 6! declare() declare() declare() ", "enforce()", UNSUPPORTED);
        due(FULL + "bowl(0) 6! declare() declare() time() ", "enforce()", UNSUPPORTED);
        // As many runs less as told are enough, one less is not; a bonus is no run of it.
        due("start(f,1,0,0) bowl(0) 1 declare() declare() ", "enforce()", 1);
        due("start(f,1,0,0) declare() declare() ", "enforce()", UNSUPPORTED);
        due("start(f,1,0,0) bowl(0) 1 declare() bowl(0) 2 declare() ", "enforce()", UNSUPPORTED);
        due(FULL + "bowl(0) 6! declare() bowl(0) 1 declare() ", "enforce()", 5);
        due(FULL + "bowl(0) 6! declare() bowl(0) 2 declare() ", "enforce()", UNSUPPORTED);
        due(FULL + "bowl(0) 6! declare() bowl(0) 0 declare() ", "enforce()", 6);
        due(FULL + "bowl(0) 6! declare() bowl(0) 2 q declare() ", "enforce()", UNSUPPORTED);
        due(FULL + "bowl(0) 6! q declare() bowl(0) 1 declare() ", "enforce()", 5);
        due(FULL + "bowl(0) 6! q declare() bowl(0) 2 declare() ", "enforce()", UNSUPPORTED);
        StringBuilder most = new StringBuilder("start(f,999,0,0) ");
        for (int i = 0; i < 90; i++) {
            most.append(i % 6 == 0 ? "bowl(" + i / 6 % 2 + ") " : "").append("6p ");
        }
        due(most + "bowl(1) 6 2 declare() declare() ", "enforce()", UNSUPPORTED);
        due(most + "bowl(1) 6 3 declare() declare() ", "enforce()", 999);
        // At once: behind any act of the third innings it is too late, but reviews are none of it.
        String behind = FULL + "bowl(0) 6! declare() bowl(0) B B B B B B bowl(1) B B B C ";
        for (String act : List.of("bowl(0) ", "send(9) ", "retire(true) ", "hurt(9) ", "miscount(6) ", "bowl(0) 0 ")) {
            due(behind + act, "enforce()", UNSUPPORTED);
        }
        for (String none : List.of("", "review() ", "type:1 ", "clear() ", "note:1 ", "runsBySecond(1) runsBy(2,1) ")) {
            due(behind + none, "enforce()", 6);
            due(behind + none + "enforce() ", "team(2)", 1);
            due(behind + none + "enforce() ", "innings()", 3);
            due(behind + none + "enforce() ", "enforce()", UNSUPPORTED);
        }
        due(behind + "bowl(0) ", "team(2)", 0);
        due(behind.replace("C ", "0? "), "enforce()", 6);
        due(behind.replace("C ", "0? ") + "review() ", "enforce()", UNSUPPORTED);
        due(behind.replace("C ", "L? ") + "review() ", "enforce()", 6);
        due(behind + "enforce() declare() ", "result()", "0");
        due(FULL + "bowl(0) 6! declare() declare() enforce() bowl(0) 6! declare() ", "team(3)", 0);
    }

    private static void raining() {
        promise = 14;
        for (String before : List.of("", LIMITED, FULL, DONE)) {
            for (int wrong : new int[] {LEAST, -1, 0, 51, MOST}) {
                due(before, "rain(" + wrong + ")", ARGUMENT);
            }
        }
        for (int right : new int[] {1, 50}) {
            due("", "rain(" + right + ")", STATE);
            due(DONE, "rain(" + right + ")", STATE);
            due(FULL, "rain(" + right + ")", UNSUPPORTED);
        }
        due("start(l,1,0,0) rain(1) ", "rain(1)", STATE);
        // As many as are not begun at most; an over begins with its first ball.
        due("start(l,50,0,0) ", "rain(50)", 0);
        due("start(l,50,0,0) ", "rain(49)", 1);
        due("start(l,50,0,0) ", "rain(1)", 49);
        due("start(l,49,0,0) ", "rain(50)", UNSUPPORTED);
        due("start(l,49,0,0) ", "rain(49)", 0);
        due("start(l,3,0,0) bowl(0) ", "rain(4)", UNSUPPORTED);
        due("start(l,3,0,0) bowl(0) ", "rain(3)", 0);
        due("start(l,3,0,0) miscount(5) ", "rain(3)", 0);
        for (String ball : List.of("0 ", "n ", "w ", "p ")) {
            due("start(l,3,0,0) bowl(0) " + ball, "rain(3)", UNSUPPORTED);
            due("start(l,3,0,0) bowl(0) " + ball, "rain(2)", 1);
            due("start(l,3,0,0) bowl(0) " + ball + "rain(2) ", "isOn()", "true");
            due("start(l,3,0,0) bowl(0) " + ball + "rain(2) ", "innings()", 1);
            due("start(l,3,0,0) bowl(0) " + ball + "rain(2) ", "rain(1)", UNSUPPORTED);
        }
        due("start(l,3,0,0) bowl(0) 0 0 0 0 0 ", "rain(3)", UNSUPPORTED);
        due("start(l,3,0,0) bowl(0) " + SIX, "rain(3)", UNSUPPORTED);
        due("start(l,3,0,0) bowl(0) " + SIX, "rain(2)", 1);
        // Without an over that is on, an innings whose overs have gone is over at once.
        due("start(l,3,0,0) bowl(0) " + SIX + "rain(2) ", "innings()", 2);
        due("start(l,3,0,0) bowl(0) " + SIX + "rain(1) ", "innings()", 1);
        due("start(l,3,0,0) bowl(0) 0 0 0 0 0 rain(2) ", "innings()", 1);
        due("start(l,3,0,0) bowl(0) 0 0 0 0 0 rain(2) 0 ", "innings()", 2);
        due("start(l,3,0,0) rain(3) ", "innings()", 2);
        due("start(l,3,0,0) rain(3) ", "isOn()", "false");
        due("start(l,3,0,0) rain(3) ", "result()", "t");
        due("start(l,3,1,0) rain(3) ", "innings()", 3);
        due("start(l,3,1,0) rain(3) ", "isOn()", "true");
        // The second innings has as many overs as the first one had at last, and none in the others go.
        due("start(l,3,0,0) rain(1) " + turns(2), "rain(3)", UNSUPPORTED);
        due("start(l,3,0,0) rain(1) " + turns(2), "rain(1)", 1);
        due("start(l,3,0,0) rain(1) " + turns(2), "rain(2)", 0);
        due("start(l,3,0,0) rain(2) " + turns(1), "innings()", 2);
        due("start(l,4,0,0) " + TEN_OUT, "rain(4)", 0);
        due("start(l,3,1,0) rain(3) ", "rain(1)", UNSUPPORTED);
        due("start(l,3,1,0) rain(3) bowl(0) " + SIX, "rain(1)", UNSUPPORTED);
        due("start(l,3,1,0) rain(3) ", "rain(0)", ARGUMENT);

        promise = 15;
        due("", "time()", STATE);
        due(LIMITED, "time()", STATE);
        due(DONE, "time()", STATE);
        due(FULL + times(4, "declare() "), "time()", STATE);
        due("start(l,1,0,0) rain(1) ", "time()", STATE);
        for (int declared = 0; declared <= 3; declared++) {
            due(FULL + times(declared, "declare() "), "time()", "true");
            due(FULL + times(declared, "declare() ") + "time() ", "result()", "d");
            due(FULL + times(declared, "declare() ") + "time() ", "isOn()", "false");
            due(FULL + times(declared, "declare() ") + "time() ", "innings()", declared + 1);
        }
    }

    private static void resources() {
        promise = 34;
        for (String before : List.of("", LIMITED, FULL, DONE, "start(l,1,1,0) rain(1) ")) {
            for (int wrong : new int[] {LEAST, -1, 4, MOST}) {
                due(before, "resources(" + wrong + ")", INDEX);
            }
        }
        due(LIMITED, "resources(0)", 144);
        due(LIMITED, "resources(1)", INDEX);
        due(FULL, "resources(0)", UNSUPPORTED);
        due(FULL, "resources(1)", INDEX);
        due(FULL + "declare() ", "resources(1)", UNSUPPORTED);
        due("start(l,1,1,0) rain(1) ", "resources(1)", 0);
        due("start(l,1,1,0) rain(1) ", "resources(2)", UNSUPPORTED);
        due("start(l,1,1,0) rain(1) ", "resources(3)", INDEX);
        due("start(l,1,1,0) rain(1) bowl(0) " + SIX, "resources(3)", UNSUPPORTED);
        // 12 times less the wickets: from none out to nine out.
        for (int out = 0; out <= 5; out++) {
            due("start(l,3,0,0) bowl(0) " + times(out, "B ") + "rain(1) ", "resources(0)", 216 - 6 * (12 - out));
        }
        due("start(l,4,0,0) bowl(0) B B B B B B bowl(1) B B B rain(2) ", "resources(0)", 288 - 12 * 3);
        due("start(l,4,0,0) bowl(0) B rain(1) B rain(2) ", "resources(0)", 288 - 6 * 11 - 12 * 10);
        due("start(l,3,0,0) rain(1) " + turns(2), "resources(1)", 144);
        due("start(l,3,0,0) rain(3) ", "resources(0)", 0);
        due("start(l,3,0,0) " + turns(2) + "bowl(2) " + SIX + "bowl(0) B rain(2) ", "resources(1)", 216 - 12 * 11);
        // A miscount takes and gives no resources.
        due("start(l,1,0,0) miscount(7) bowl(0) " + SIX + "0 ", "resources(0)", 72);
        targets();
    }

    private static void targets() {
        promise = 33;
        due("", "target()", STATE);
        due(DONE, "target()", STATE);
        due("start(l,1,0,0) rain(1) ", "target()", STATE);
        due(LIMITED, "target()", NONE);
        due("start(l,1,1,0) rain(1) ", "target()", NONE);
        for (int declared = 0; declared <= 2; declared++) {
            due(FULL + times(declared, "declare() "), "target()", NONE);
        }
        due(FULL + times(3, "declare() "), "target()", 1);
        due("start(l,1,0,0) bowl(0) " + SIX, "target()", 1);
        due("start(l,1,0,0) bowl(0) 6! 0 0 0 0 p ", "target()", 12);
        // The bonus of the team of the first innings is part of it, that of the other one reaches it.
        due("start(l,1,0,0) bowl(0) 6! 0 0 0 0 q ", "target()", 7);
        due("start(l,1,0,0) bowl(0) 6! 0 0 0 0 0 bowl(0) q ", "target()", 12);
        due("start(l,1,0,0) bowl(0) 4 0 0 0 0 q ", "result()", "1");
        due("start(l,1,0,0) bowl(0) 5 0 0 0 0 q ", "result()", "-");
        due("start(l,1,0,0) bowl(0) 5 0 0 0 0 q bowl(0) 1 ", "result()", "1");
        due("start(l,1,0,0) bowl(0) 5 0 0 0 0 q bowl(0) " + SIX, "result()", "t");
        // Rounded down: 3 runs by resources of 72 of 144, 5 by 72 of 138, 72 of 144 of 0.
        String two = "start(l,2,0,0) bowl(0) ";
        String zeros = "0 0 0 0 0 bowl(1) " + SIX;
        due(two + "3 " + zeros + "bowl(0) ", "target()", 4);
        due(two + "3 " + zeros + "bowl(0) rain(1) ", "target()", 2);
        due(two + "4 " + zeros + "rain(1) ", "target()", 3);
        due(two + "3 " + zeros + "rain(1) ", "target()", 2);
        due(two + "0 " + zeros + "rain(1) ", "target()", 1);
        due(two + "4 " + zeros + "bowl(0) B rain(1) ", "target()", 3);
        // 144 less 6 times 11 are 78 of 144: 4 runs give 2.16, 6 give 3.25 and with a bonus of 5 11 give 5.95.
        due(two + "4 " + zeros + "bowl(0) B rain(1) ", "resources(1)", 78);
        due(two + "6 " + zeros + "bowl(0) B rain(1) ", "target()", 4);
        due(two + "6 " + zeros + "bowl(0) B q rain(1) ", "target()", 6);
        due(two + "6 " + zeros + "bowl(0) B rain(1) q ", "target()", 6);
        // Resources alike without all their overs: the target is not cut.
        due("start(l,2,0,0) rain(1) bowl(0) 3 0 0 0 0 0 ", "target()", 4);
        // The first one lost an over with one out, so that it has 78 and the second one 72: 13 give 12.
        due("start(l,2,0,0) bowl(0) 6 6 1 B rain(1) 0 0 ", "target()", 13);
        due("start(l,2,0,0) bowl(0) 6 6 B rain(1) 0 0 0 ", "target()", 12);
        // Rain moves the target to what is there already.
        due(two + "4 " + zeros + "bowl(0) 2 0 0 0 0 0 ", "target()", 5);
        due(two + "4 " + zeros + "bowl(0) 2 0 0 0 0 0 rain(1) ", "result()", "t");
        due(two + "4 " + zeros + "bowl(0) 3 0 0 0 0 0 rain(1) ", "result()", "1");
        due(two + "4 " + zeros + "bowl(0) 1 0 0 0 0 0 rain(1) ", "result()", "0");
        due(two + "4 " + zeros + "bowl(0) 3 rain(1) ", "result()", "1");
        due(two + "4 " + zeros + "bowl(0) 2 rain(1) ", "result()", "-");
        extraTargets();
    }

    private static void extraTargets() {
        String tied = "start(l,1,1,0) bowl(0) " + SIX + "bowl(0) " + SIX;
        due(tied, "target()", NONE);
        due(tied + "bowl(0) " + SIX, "target()", 1);
        due(tied + "bowl(0) 3 0 0 0 0 0 ", "target()", 4);
        due(tied + "bowl(0) 3 q 0 0 0 0 ", "target()", 4);
        due(tied + "bowl(0) 3 0 0 0 0 0 bowl(0) q ", "target()", 4);
        due(tied + "bowl(0) 3 0 0 0 0 0 bowl(0) q ", "result()", "-");
        due(tied + "bowl(0) 3 q 0 0 0 0 ", "result()", "-");
        due(tied + "bowl(0) 3 0 0 0 0 0 bowl(0) 3 ", "result()", "-");
        due(tied + "bowl(0) 3 0 0 0 0 0 bowl(0) 4 ", "result()", "0");
        due(tied + "bowl(0) 3 0 0 0 0 0 bowl(0) 3 0 0 0 0 0 ", "result()", "t");
        due(tied + "bowl(0) 3 0 0 0 0 0 bowl(0) 2 0 0 0 0 0 ", "result()", "1");
        // Two out end an extra over, one does not.
        due(tied + "bowl(0) B ", "innings()", 3);
        due(tied + "bowl(0) B B ", "innings()", 4);
        due(tied + "bowl(0) B B ", "team(2)", 1);
        due(tied + "bowl(0) B B ", "team(3)", 0);
        due(tied + "bowl(0) B B bowl(0) B ", "result()", "-");
        due(tied + "bowl(0) B B bowl(0) B B ", "result()", "t");
        due(tied + "bowl(0) 0 0 0 0 0 ", "innings()", 3);
        due(tied + "bowl(0) 0 0 0 0 0 n ", "innings()", 3);
        due(tied, "reviews(0)", 2);
    }

    // Results.

    private static void results() {
        promise = 35;
        due("", "result()", "-");
        due(LIMITED, "result()", "-");
        due(FULL, "result()", "-");
        for (int version = 0; version < 2; version++) {
            for (int first = 0; first < 2; first++) {
                // The target is 4: it is reached by 4, tied by 3 and missed by 2.
                String limited = "start(l,1," + version + "," + first + ") bowl(0) 3 0 0 0 0 0 bowl(0) ";
                due(limited + "3 ", "result()", "-");
                due(limited + "4 ", "result()", 1 - first);
                due(limited + "6! ", "result()", 1 - first);
                due(limited + "2 0 0 0 0 0 ", "result()", first);
                due(limited + "3 0 0 0 0 0 ", "result()", version == 0 ? "t" : "-");
                due(limited + "3 0 0 0 0 0 ", "innings()", version == 0 ? 2 : 3);
                due(limited + "2 0 0 0 0 0 ", "innings()", 2);
                due(limited + "4 ", "isOn()", "false");
            }
        }
        due("start(l,1,0,0) bowl(0) " + SIX + "bowl(0) " + SIX, "result()", "t");
        due("start(l,1,0,0) bowl(0) " + SIX + "bowl(0) w ", "result()", "1");
        due("start(l,3,0,0) bowl(0) 1 0 0 0 0 0 rain(2) bowl(0) 1 ", "result()", "-");
        due("start(l,3,0,0) bowl(0) 1 0 0 0 0 0 rain(2) bowl(0) 2 ", "result()", "1");
        due("start(l,3,0,0) " + TEN_OUT + TEN_OUT, "result()", "t");
        fullResults();
    }

    private static void fullResults() {
        for (int first = 0; first < 2; first++) {
            String full = "start(f,1,0," + first + ") bowl(0) 4 declare() ";
            // The first one has batted twice: 4 and 1 against 6, 5 and 4.
            due(full + "bowl(0) 6 declare() bowl(0) 1 declare() ", "result()", 1 - first);
            due(full + "bowl(0) 6 declare() bowl(0) 1 declare() ", "innings()", 3);
            due(full + "bowl(0) 5 declare() bowl(0) 1 declare() ", "result()", "-");
            due(full + "bowl(0) 5 declare() bowl(0) 1 declare() ", "target()", 1);
            due(full + "bowl(0) 4 declare() bowl(0) 1 declare() ", "target()", 2);
            due(full + "bowl(0) 6 declare() bowl(0) 1 ", "result()", "-");
            due(full + "bowl(0) 6 declare() bowl(0) 2 declare() bowl(0) 0 declare() ", "result()", "t");
            due(full + "bowl(0) 6 declare() bowl(0) 3 declare() bowl(0) 0 declare() ", "result()", first);
            due(full + "bowl(0) 6 declare() bowl(0) 3 declare() bowl(0) 1 declare() ", "result()", "t");
            due(full + "bowl(0) 6 declare() bowl(0) 3 declare() bowl(0) 1 ", "result()", "-");
            due(full + "bowl(0) 6 declare() bowl(0) 3 declare() bowl(0) 2 ", "result()", 1 - first);
            due(full + "bowl(0) 6 declare() bowl(0) 3 declare() bowl(0) 2 ", "isOn()", "false");
            // Bonus of both teams: 5 more for the first one, by the ball of the second one, or the other way.
            due(full + "bowl(0) 6 q declare() bowl(0) 1 declare() ", "target()", 5);
            due("start(f,1,0," + first + ") bowl(0) 4 q declare() declare() declare() ", "result()", 1 - first);
            due("start(f,1,0," + first + ") bowl(0) 5 q declare() declare() declare() ", "target()", 1);
            due("start(f,1,0," + first + ") bowl(0) 6 q declare() declare() declare() ", "target()", 2);
            // Made to bat on: less in one innings, alike, or more.
            due(full + "declare() enforce() bowl(0) 3 declare() ", "result()", first);
            due(full + "declare() enforce() bowl(0) 3 declare() ", "innings()", 3);
            due(full + "declare() enforce() bowl(0) 4 declare() ", "target()", 1);
            due(full + "declare() enforce() bowl(0) 4 declare() ", "team(3)", first);
            due(full + "declare() enforce() bowl(0) 4 declare() declare() ", "result()", "t");
            due(full + "declare() enforce() bowl(0) 4 declare() bowl(0) 1 ", "result()", first);
            due(full + "declare() enforce() bowl(0) 5 declare() declare() ", "result()", 1 - first);
            due(full + "bowl(0) q declare() enforce() bowl(0) 4 declare() ", "result()", first);
            due(full + "bowl(0) q declare() time() ", "result()", "d");
            // A bonus moves the target while the last innings is on.
            String last = full + "declare() bowl(0) 2 declare() ";
            due(last, "target()", 7);
            due(last + "bowl(0) q ", "target()", 12);
            due(last + "bowl(0) 6 ", "result()", "-");
            due(last + "bowl(0) 6 1 ", "result()", 1 - first);
            due(last + "bowl(0) q 6 5 declare() ", "result()", "t");
            due(last + "time() ", "result()", "d");
        }
        due(FULL + TEN_OUT + TEN_OUT + TEN_OUT, "innings()", 4);
        due(FULL + TEN_OUT + TEN_OUT + TEN_OUT + TEN_OUT, "result()", "t");
    }

    // What is asked of scores.

    private static void asking() {
        // Each row: runs of acts, and how many innings have begun with it.
        String[][] matches = {{"", "0"}, {LIMITED, "1"}, {BOWLS + "2 nb4!Rap ", "1"}, {LIMITED + turns(2), "2"},
            {"start(l,1,1,0) rain(1) ", "3"}, {"start(l,1,1,0) rain(1) bowl(0) " + SIX, "4"}, {FULL, "1"},
            {FULL + "declare() ", "2"}, {FULL + "declare() declare() ", "3"}, {FULL + times(3, "declare() "), "4"},
            {FULL + times(4, "declare() "), "4"}, {DONE, "1"}, {FULL + "declare() time() " + LIMITED, "1"}};
        String[][] calls = {{"17", "team(", ")"}, {"18", "runs(", ")"}, {"19", "wickets(", ")"}, {"20", "balls(", ")"},
            {"21", "extras(", ",n)"}, {"21", "extras(", ",p)"}, {"32", "partnership(", ")"}, {"41", "runsBySecond(", ")"},
            {"26", "batted(", ",0)"}, {"26", "batted(", ",10)"}, {"27", "faced(", ",0)"}, {"27", "faced(", ",10)"},
            {"28", "boundaries(", ",0)"}, {"28", "boundaries(", ",10)"}, {"29", "state(", ",0)"},
            {"29", "state(", ",10)"}, {"30", "bowled(", ",0,b)"}, {"30", "bowled(", ",10,m)"}};
        for (String[] match : matches) {
            int begun = Integer.parseInt(match[1]);
            promise = 16;
            due(match[0], "innings()", begun);
            for (String[] call : calls) {
                promise = Integer.parseInt(call[0]);
                for (int wrong : new int[] {LEAST, -1, begun, 4, MOST}) {
                    due(match[0], call[1] + wrong + call[2], INDEX);
                }
                for (int right = 0; right < begun; right++) {
                    String got = made(match[0]).call(call[1] + right + call[2]);
                    check(!got.startsWith("throws."), match[0] + call[1] + right + call[2] + " answered " + got);
                }
            }
            otherIndexes(match[0], begun);
        }
        players();
        kinds();
    }

    private static void otherIndexes(String before, int begun) {
        for (int wrong : new int[] {LEAST, -1, begun, 4, MOST}) {
            promise = 21;
            due(before, "extras(" + wrong + ",x)", INDEX);
            promise = 30;
            due(before, "bowled(" + wrong + ",11,x)", INDEX);
            promise = 31;
            due(before, "fall(" + wrong + ",0)", INDEX);
            due(before, "fall(" + wrong + ",1)", INDEX);
            promise = 42;
            due(before, "runsBy(" + wrong + ",0)", INDEX);
            due(before, "runsBy(" + wrong + ",-1)", ARGUMENT);
            due(before, "runsBy(" + wrong + ",2)", ARGUMENT);
            promise = 49;
            due(before, "extraShare(" + wrong + ")", INDEX);
            promise = 50;
            due(before, "meanRuns(" + wrong + ")", INDEX);
            promise = 34;
            due(before, "resources(" + wrong + ")", INDEX);
        }
    }

    private static void players() {
        for (String call : List.of("26 batted(0,P)", "27 faced(0,P)", "28 boundaries(0,P)", "29 state(0,P)",
                "30 bowled(0,P,b)", "30 bowled(0,P,r)", "30 bowled(0,P,w)", "30 bowled(0,P,m)", "30 bowled(0,P,x)")) {
            promise = Integer.parseInt(call.substring(0, 2));
            for (int wrong : new int[] {LEAST, -1, 11, MOST}) {
                for (String before : List.of(LIMITED, FULL, DONE, BOWLS + "4! B ")) {
                    due(before, call.substring(3).replace("P", "" + wrong), INDEX);
                }
            }
        }
        // The last player can bat and bowl as the first one can.
        String last = "start(l,5,0,0) send(10) bowl(10) B 6! 2 ";
        promise = 26;
        due(last, "batted(0,10)", 8);
        promise = 27;
        due(last, "faced(0,10)", 2);
        promise = 28;
        due(last, "boundaries(0,10)", 1);
        promise = 30;
        due(last, "bowled(0,10,b)", 3);
        due(last, "bowled(0,10,r)", 8);
        due(last, "bowled(0,10,w)", 1);
        due("start(l,5,0,0) bowl(10) " + SIX, "bowled(0,10,m)", 1);
    }

    private static void kinds() {
        promise = 21;
        for (String kind : List.of("x", "N", "W", "B", "L", "P", "a", "c", "m", "o", "q", "r", "v", "-", "#32", "#0",
                "#65535")) {
            due(LIMITED, "extras(0," + kind + ")", ARGUMENT);
            due(BOWLS + "n w ", "extras(0," + kind + ")", ARGUMENT);
            due(LIMITED, "extras(1," + kind + ")", INDEX);
        }
        String[] rows = {"n 1 0 0 0 0", "n6! 1 0 0 0 0", "w 0 1 0 0 0", "w6 0 7 0 0 0", "w4! 0 5 0 0 0", "w1x 0 1 0 0 0",
            "w2x 0 2 0 0 0", "b6 0 0 6 0 0", "b1x 0 0 0 0 0", "b4! 0 0 4 0 0", "l6 0 0 0 6 0", "l3x 0 0 0 2 0",
            "nb2 1 0 2 0 0", "nl2 1 0 0 2 0", "p 0 0 0 0 5", "q 0 0 0 0 0", "wp 0 1 0 0 5", "nl1p 1 0 0 1 5",
            "6! 0 0 0 0 0", "0 0 0 0 0 0", "b0 0 0 0 0 0"};
        for (String row : rows) {
            String[] parts = row.split(" ");
            for (int i = 0; i < 5; i++) {
                due(BOWLS + parts[0] + " ", "extras(0," + "nwblp".charAt(i) + ")", parts[i + 1]);
            }
        }
        due(BOWLS_LATER + "n ", "extras(0,n)", 2);
        due(BOWLS_LATER + "w ", "extras(0,w)", 1);
        promise = 30;
        for (String what : List.of("x", "B", "R", "W", "M", "a", "c", "l", "n", "q", "s", "v", "#32", "#0", "#65535")) {
            due(LIMITED, "bowled(0,0," + what + ")", ARGUMENT);
            due(LIMITED, "bowled(0,10," + what + ")", ARGUMENT);
            due(LIMITED, "bowled(0,11," + what + ")", INDEX);
            due(LIMITED, "bowled(0,-1," + what + ")", INDEX);
            due(LIMITED, "bowled(1,0," + what + ")", INDEX);
        }
        promise = 22;
        for (String before : List.of("", LIMITED, FULL, DONE)) {
            for (int wrong : new int[] {LEAST, -1, 2, MOST}) {
                due(before, "bonus(" + wrong + ")", ARGUMENT);
            }
            due(before, "bonus(0)", 0);
            due(before, "bonus(1)", 0);
        }
        due("start(f,5,0,0) bowl(0) q ", "bonus(1)", 5);
        due("start(f,5,0,0) bowl(0) q ", "bonus(0)", 0);
        due("start(f,5,0,0) bowl(0) q declare() bowl(0) q q ", "bonus(0)", 10);
        due("start(f,5,0,0) bowl(0) q declare() bowl(0) q q ", "bonus(1)", 5);
        due("start(f,5,0,0) bowl(0) q time() ", "bonus(1)", 5);
        due("start(f,5,0,0) bowl(0) q time() " + FULL, "bonus(1)", 0);
        promise = 23;
        due("", "isOn()", "false");
        due(LIMITED, "isOn()", "true");
        due(DONE, "isOn()", "false");
        promise = 19;
        due(FULL + "bowl(0) B B B B B B bowl(1) B B B ", "wickets(0)", 9);
        due(FULL + TEN_OUT, "wickets(0)", 10);
        due(BOWLS + "0? ", "wickets(0)", 1);
        due(BOWLS + "C? ", "wickets(0)", 0);
        due(BOWLS + "nB ", "wickets(0)", 0);
        due(LIMITED + "retire(true) ", "wickets(0)", 0);
        promise = 17;
        for (int first = 0; first < 2; first++) {
            String full = "start(f,1,0," + first + ") bowl(0) 1 declare() declare() ";
            due(full, "team(0)", first);
            due(full, "team(1)", 1 - first);
            due(full, "team(2)", first);
            due(full + "enforce() ", "team(2)", 1 - first);
            due("start(l,1,1," + first + ") rain(1) ", "team(2)", 1 - first);
            due("start(l,1,1," + first + ") rain(1) bowl(0) " + SIX, "team(3)", first);
        }
    }

    private static void falls() {
        promise = 31;
        for (int wrong : new int[] {LEAST, -1, 0, 1, 10, 11, MOST}) {
            due(LIMITED, "fall(0," + wrong + ")", NONE);
        }
        String two = BOWLS + "4! B 2 1Rzp 3 ";
        for (int wrong : new int[] {LEAST, -1, 0, 3, 4, 10, 11, 12, MOST}) {
            due(two, "fall(0," + wrong + ")", NONE);
            due(two, "fall(1," + wrong + ")", INDEX);
        }
        due(two, "fall(0,1)", 4);
        // The runs behind that ball, those of the ball and its penalty too.
        due(two, "fall(0,2)", 12);
        due(FULL + TEN_OUT, "fall(0,10)", 0);
        due(FULL + TEN_OUT, "fall(0,11)", NONE);
        String nineAtSix = FULL + "bowl(0) 6! B B B B B bowl(1) B B B B ";
        due(nineAtSix, "fall(0,9)", 6);
        due(nineAtSix, "fall(0,10)", NONE);
        due(nineAtSix + "1Ra ", "fall(0,9)", 6);
        due(nineAtSix + "1Ra ", "fall(0,10)", 7);
        due(nineAtSix + "1Ra ", "partnership(0)", 6);
        due(FULL + TEN_OUT, "fall(1,1)", NONE);
        due(BOWLS + "0? ", "fall(0,1)", 0);
        due(BOWLS + "0? review() ", "fall(0,1)", NONE);
        due(BOWLS + "2 C?p review() ", "fall(0,1)", 7);
        due(LIMITED + "retire(true) ", "fall(0,1)", NONE);

        promise = 32;
        due(LIMITED, "partnership(0)", 0);
        due(BOWLS + "4! ", "partnership(0)", 4);
        due(BOWLS + "B ", "partnership(0)", 0);
        due(BOWLS + "4! 2Ra 1 ", "partnership(0)", 6);
        due(BOWLS + "1 B 4! 2 B 3 ", "partnership(0)", 6);
        due(BOWLS + "1 B 2 B 3 ", "partnership(0)", 3);
        due(BOWLS + "1 B 2 Bp 3 ", "partnership(0)", 7);
        due(BOWLS + "1 2 q 3 ", "partnership(0)", 6);
        due(BOWLS + "4 retire(true) 4 ", "partnership(0)", 8);
        due(FULL + TEN_OUT, "partnership(0)", 0);
        due(FULL + TEN_OUT + "bowl(0) 3 ", "partnership(1)", 3);
        due(FULL + "bowl(0) B B B B B B bowl(1) B B B 6!p Ra ", "partnership(0)", 11);
        due(FULL + "bowl(0) B B B B B B bowl(1) B B B 6!p 1Ra ", "partnership(0)", 12);
        due(BOWLS + "4 C? 4 ", "partnership(0)", 8);
        due(BOWLS + "4 C? review() 3 ", "partnership(0)", 4);
    }

    // Scorers and laws.

    private static void scorers() {
        promise = 37;
        due("", "told()", 0);
        due(LIMITED, "told()", 0);
        due(BOWLS + "n ", "told()", 1);
        due(BOWLS + "0? note:1 review() type:1 ", "told()", 1);
        due(BOWLS + times(12, "w "), "told()", 12);
        due("start(f,5,0,0) bowl(0) 1 time() ", "told()", 1);
        due("start(f,5,0,0) bowl(0) 1 time() " + LIMITED, "told()", 0);

        promise = 38;
        String three = BOWLS + "n nb4!Ra+p 0? ";
        for (int wrong : new int[] {LEAST, -1, 3, 4, MOST}) {
            due(three, "signAt(" + wrong + ",0)", INDEX);
            due(three, "signAt(" + wrong + ",-1)", INDEX);
            due("", "signAt(" + wrong + ",0)", INDEX);
        }
        for (int wrong : new int[] {LEAST, -1, 1, 2, 11, 12, MOST}) {
            due(three, "signAt(0," + wrong + ")", NONE);
        }
        for (int wrong : new int[] {LEAST, -1, 8, 9, 11, 12, MOST}) {
            due(three, "signAt(1," + wrong + ")", NONE);
        }
        for (int i = 0; i < 8; i++) {
            due(three, "signAt(1," + i + ")", "nb4!Ra+p".charAt(i));
        }
        due(three, "signAt(0,0)", "n");
        due(three, "signAt(2,0)", "0");
        due(three, "signAt(2,1)", "?");
        due(three, "signAt(2,2)", NONE);
        due(three + "note:6! ", "signAt(2,1)", "?");
        due(three + "review() ", "signAt(2,1)", "?");
        due(LIMITED, "signAt(0,0)", INDEX);
        due("start(f,5,0,0) bowl(0) 1 time() " + LIMITED, "signAt(0,0)", INDEX);

        promise = 39;
        for (String before : List.of("", LIMITED, BOWLS + "1 ", DONE, "start(f,5,0,0) bowl(0) 1 time() ")) {
            for (String wrong : List.of("", "type:b", "type:11", "type:1B", "type:" + times(12, "p"), "type:wn")) {
                due(before + wrong, "note()", ARGUMENT);
            }
        }
        for (String before : List.of("", LIMITED, BOWLS, DONE, "start(f,5,0,0) bowl(0) 1 time() start(f,5,0,0) ")) {
            due(before + "type:1", "note()", UNSUPPORTED);
        }
        for (String other : List.of("1 2 true", "1 1 false", "1 1x true", "1x 1 true", "1 1p true", "n w true", "4 4! true",
                "0? 0 true", "C? C? false", "nb4!Ra+p nb4!Ra+q true", "nb4!Ra+p nb4!Ra+p false", "Ra Rz true")) {
            String[] parts = other.split(" ");
            due(BOWLS + parts[0] + " ", "note:" + parts[1], parts[2]);
            due(BOWLS + parts[0] + " note:" + parts[1] + " ", "clear()", 0);
            due(BOWLS + parts[0] + " note:6! ", "note:" + parts[1], parts[2]);
            due(BOWLS + parts[0] + " note:" + parts[1] + " ", "firstDiffering()", parts[2].equals("true") ? 0 : NONE);
        }
        // Also behind other acts, in the next innings, and with a result, for the last ball.
        due("start(f,5,0,0) bowl(0) 1 declare() ", "note:2", "true");
        due("start(f,5,0,0) bowl(0) 1 time() ", "note:2", "true");
        due("start(f,5,0,0) bowl(0) 1 time() note:2 ", "runsBySecond(0)", 2);
        due("start(f,5,0,0) bowl(0) 1 2 note:4 ", "runsBySecond(0)", 5);

        promise = 40;
        due("", "firstDiffering()", NONE);
        due(LIMITED, "firstDiffering()", NONE);
        due(BOWLS + "1 2 3 ", "firstDiffering()", NONE);
        due(BOWLS + "1 note:2 2 3 ", "firstDiffering()", 0);
        due(BOWLS + "1 2 3 note:2 ", "firstDiffering()", 2);
        due(BOWLS + "1 2 note:1 3 note:2 ", "firstDiffering()", 1);
        due(BOWLS + "1 note:2 note:1 ", "firstDiffering()", NONE);
        due(BOWLS + "1 note:1 2 ", "firstDiffering()", NONE);
        due("start(f,5,0,0) bowl(0) 1 note:2 time() " + LIMITED, "firstDiffering()", NONE);
        again();
        boxes();
    }

    /** Acts that are done again by other texts or laws, as far as they can be done then. */
    private static void again() {
        promise = 41;
        String one = "start(l,1,0,0) bowl(0) 1 1 1 1 1 ";
        // By the second scorer the over is not over, so that the innings 1 does not begin.
        due(one + "1 note:w ", "runsBySecond(0)", 6);
        due(one + "1 note:w ", "runsBySecond(1)", INDEX);
        due(one + "1 note:w ", "runs(1)", 0);
        due(one + "w note:1 ", "runsBySecond(1)", 0);
        due(one + "w note:1 ", "runs(1)", INDEX);
        // What cannot be done then is left out: a ball without a bowler.
        due(one + "w note:1 4 ", "runsBySecond(0)", 6);
        due(one + "w note:1 4 ", "runsBySecond(1)", 0);
        due(one + "w note:1 4 bowl(0) 2 ", "runsBySecond(1)", 2);
        due(one + "w note:1 4 bowl(0) 2 ", "runs(1)", 2);
        // A review goes by the text that its ball has there.
        due(BOWLS + "2 C? note:4 review() ", "runsBySecond(0)", 6);
        due(BOWLS + "2 0?p note:L?p review() ", "runsBySecond(0)", 7);
        String nine = FULL + "bowl(0) B B B B B B bowl(1) B B B ";
        due(nine + "0? note:L? review() 3 ", "runsBySecond(0)", 0);
        due(nine + "0? note:L? review() 3 ", "runsBySecond(1)", 0);
        due(nine + "0? note:0 review() 3 ", "runsBySecond(0)", 3);
        due(nine + "0? note:0 review() 3 ", "runsBySecond(1)", INDEX);
        due(nine + "0? review() note:B 3 ", "runsBySecond(0)", 0);
        due(nine + "L? note:0 review() ", "runsBySecond(1)", INDEX);
        due(nine + "L? note:0 review() ", "runs(1)", 0);
        due(nine + "L? note:C review() bowl(0) 3 ", "runsBySecond(1)", 3);
        // A review is left out with its ball: behind it the second scorer has one more left.
        String lost = "start(f,5,0,0) bowl(0) B B B B B ";
        due(lost + "n note:0 C review() bowl(1) ", "runsBySecond(0)", 0);
        due(lost + "n note:0 C? review() bowl(1) B B B B ", "runsBySecond(1)", INDEX);
        due(lost + "n note:0 C? review() bowl(1) B B B B ", "innings()", 2);
        due(lost + "n note:0 C? review() bowl(1) B B B B ", "runs(0)", 1);
        // Enforcing, declaring, rain and time likewise.
        String less = "start(f,5,0,0) bowl(0) 5 ";
        due(less + "declare() declare() enforce() bowl(0) 1 ", "runsBySecond(2)", 1);
        // By the second scorer it has 4 less, so the innings 2 is that of the team that was first, and not the last.
        due(less + "declare() declare() enforce() declare() ", "runsBySecond(3)", INDEX);
        due(less + "note:4 declare() declare() enforce() declare() ", "runsBySecond(3)", 0);
        due(less + "note:4 declare() declare() enforce() declare() ", "runs(3)", INDEX);
        due(less + "note:4 declare() declare() enforce() bowl(0) 6 declare() bowl(0) 2 ", "runsBySecond(3)", 2);
        due(less + "note:4 declare() declare() enforce() bowl(0) 6 declare() bowl(0) 2 ", "runsBySecond(2)", 6);
        due("start(f,5,0,0) bowl(0) 1 time() ", "runsBySecond(1)", INDEX);
        due("start(l,2,0,0) bowl(0) 0 0 0 0 0 0 note:n rain(1) ", "runsBySecond(1)", INDEX);
        due("start(l,2,0,0) bowl(0) 0 0 0 0 0 0 note:n rain(1) ", "runs(1)", 0);
        due("start(l,2,0,0) bowl(0) 0 0 0 0 0 n note:0 rain(1) ", "runsBySecond(1)", 0);
        due("start(l,2,0,0) bowl(0) 0 0 0 0 0 n note:0 rain(1) ", "runs(1)", INDEX);

        otherActsAgain();

        promise = 42;
        for (int wrong : new int[] {LEAST, -1, 2, MOST}) {
            for (String before : List.of("", LIMITED, DONE)) {
                due(before, "runsBy(0," + wrong + ")", ARGUMENT);
                due(before, "runsBy(-1," + wrong + ")", ARGUMENT);
                due(before, "runsBy(9," + wrong + ")", ARGUMENT);
            }
        }
        due(BOWLS + "n ", "runsBy(0,0)", 1);
        due(BOWLS + "n ", "runsBy(0,1)", 2);
        due(BOWLS_LATER + "n ", "runsBy(0,0)", 1);
        due(BOWLS_LATER + "n ", "runsBy(0,1)", 2);
        due(BOWLS + "n note:6! ", "runsBy(0,0)", 1);
        due(BOWLS + "n note:6! ", "runsBy(0,1)", 2);
        due(BOWLS + "n note:6! ", "runsBySecond(0)", 6);
        // A tie goes on in the version 1 alone.
        String tie = ",0) rain(1) ";
        due("start(l,1,0" + tie, "runsBy(2,0)", INDEX);
        due("start(l,1,0" + tie, "runsBy(2,1)", 0);
        due("start(l,1,0" + tie, "runsBy(3,1)", INDEX);
        due("start(l,1,1" + tie + "bowl(0) 3 ", "runsBy(2,1)", 3);
        due("start(l,1,1" + tie + "bowl(0) 3 ", "runsBy(2,0)", INDEX);
        due("start(l,1,1" + tie + "bowl(0) 3 ", "runsBy(1,0)", 0);
        // The target is reached by other laws at another ball; what is behind it is left out.
        due("start(l,1,0,0) bowl(0) 2 0 0 0 0 0 bowl(0) n n 1 ", "runsBy(1,1)", 4);
        due("start(l,1,0,0) bowl(0) 2 0 0 0 0 0 bowl(0) n n 1 ", "runs(1)", 3);
        due("start(l,1,0,0) bowl(0) 2 0 0 0 0 0 bowl(0) n w 1 ", "runsBy(1,1)", 3);
        due("start(l,1,1,0) bowl(0) 2 0 0 0 0 0 bowl(0) n 1 ", "runsBy(1,0)", 2);
        // Reviews likewise, and asking changes nothing.
        due(nine + "0? review() 3 ", "runsBy(0,1)", 3);
        due(nine + "0? review() 3 ", "runsBy(1,1)", INDEX);
        due(nine + "0? review() 3 runsBy(0,1) runsBySecond(0) isSound() ", "striker()", 7);
        due(nine + "0? review() 3 runsBy(0,1) runsBySecond(0) isSound() ", "runs(0)", 3);
        promise = 51;
        for (String before : List.of("", LIMITED, DONE, three(), nine + "0? review() 3 note:B ",
                "start(l,1,1,0) rain(1) bowl(0) B C?q ", "start(l,2,0,0) rain(1) bowl(0) 1 0 0 0 0 0 bowl(0) 2 amend(0,t) ")) {
            due(before, "isSound()", "true");
        }
    }

    /** Each kind of act is done again by its own rules, not only balls and their reviews. */
    private static void otherActsAgain() {
        promise = 41;
        // Without its miscount the over would be over ahead of the last ball, or still be on.
        for (String miscounted : List.of("miscount(7) bowl(0) " + SIX + "3 ", "miscount(5) bowl(0) 0 0 0 0 0 bowl(1) "
                + "0 0 0 0 0 3 ", "bowl(0) 0 0 0 0 miscount(5) 0 bowl(1) 0 0 0 0 0 3 ")) {
            for (String match : List.of(LIMITED, FULL)) {
                due(match + miscounted, "runsBySecond(0)", 3);
                due(match + miscounted, "runsBy(0,0)", 3);
                due(match + miscounted, "runsBy(0,1)", 3);
                due(match + miscounted, "isSound()", "true");
            }
        }
        // By the second scorer the first bowler must go on; the ball is left out if this one is hurt.
        String goesOn = "start(f,5,0,0) bowl(0) " + SIX + "note:n bowl(1) ";
        due(goesOn + "3 ", "runsBySecond(0)", 4);
        due(goesOn + "hurt(0) 3 ", "runsBySecond(0)", 1);
        due(goesOn + "hurt(1) bowl(2) 3 ", "runsBySecond(0)", 4);
        due(goesOn + "hurt(0) bowl(1) 3 ", "runsBySecond(0)", 4);
        // There the third innings has begun, so that an act is one of it, and it is too late to enforce.
        String tooLate = FULL + "bowl(0) 6! declare() bowl(0) B B B B B B bowl(1) B B 0 note:B 0 note:B ";
        due(tooLate + "B B enforce() declare() ", "runsBySecond(3)", INDEX);
        for (String act : List.of("send(10) ", "retire(true) ", "retire(false) ", "hurt(9) ", "miscount(6) ")) {
            due(tooLate + act + "B B enforce() declare() ", "runsBySecond(3)", 0);
            due(tooLate + act + "B B enforce() declare() ", "runs(3)", INDEX);
            due(tooLate + act + "B B enforce() declare() ", "isSound()", "true");
        }
        // The ball of the review has no bowler there: the review is left out, and not done for the ball before.
        String before = FULL + "bowl(0) B B B B B B bowl(1) B B B 0 0 n note:L? ";
        due(before + "L? review() ", "runs(1)", 0);
        due(before + "L? review() ", "runsBySecond(1)", INDEX);
        due(before + "C? review() ", "runsBySecond(1)", INDEX);
        due(before + "bowl(1) L? review() ", "runsBySecond(1)", INDEX);
        due(FULL + "bowl(0) B B B B B B bowl(1) B B B 0 0 n note:w L? review() ", "runsBySecond(1)", 0);
    }

    private static String three() {
        return BOWLS + "n nb4!Ra+p 0? review() ";
    }

    private static void boxes() {
        promise = 43;
        int[][] rows = {{0, 0, 0, 0, 0, 0}, {3, 4, 7, 5, 2, 0}, {3, 4, 7, 5, 3, 1}, {3, 4, 7, 5, 1, 1}, {3, 5, 7, 5, 2, 1},
            {3, 3, 7, 5, 2, 1}, {2, 4, 7, 5, 2, 1}, {3, 4, 8, 5, 2, 1}, {3, 4, 6, 5, 2, 1}, {3, 4, 8, 5, 1, 2},
            {3, 4, 8, 5, 3, 1}, {3, 4, 8, 5, 4, 2}, {-3, 3, 0, -5, 5, 0}, {-3, 3, 1, -5, 5, 1}, {MOST, 0, MOST, 0, MOST, 0},
            {LEAST, 0, LEAST, 0, LEAST, 0}, {MOST, 0, MOST, 0, MOST - 1, 1}, {MOST, 0, MOST - 1, 0, MOST, 1},
            {MOST, MOST, -2, MOST, MOST, 1}, {MOST, 1, LEAST, 0, 0, 2}, {LEAST, -1, MOST, MOST, 0, 1}};
        for (int[] row : rows) {
            due("", "wrongBoxes(" + row[0] + "," + row[1] + "," + row[2] + "," + row[3] + "," + row[4] + ")", row[5]);
        }
    }

    // The league and the figures.

    private static final String DRAWN = "start(f,1,0,0) time() ";

    private static void league() {
        promise = 44;
        for (int results : new int[] {0, 1, 2, 11, 12}) {
            for (int wrong : new int[] {LEAST, -1, results, 12, 13, MOST}) {
                promise = 44;
                due(times(results, DRAWN), "resultOf(" + wrong + ")", INDEX);
                promise = 45;
                due(times(results, DRAWN), "amend(" + wrong + ",t)", INDEX);
                due(times(results, DRAWN), "amend(" + wrong + ",x)", INDEX);
            }
            if (results > 0) {
                promise = 44;
                due(times(results, DRAWN), "resultOf(0)", "d");
                due(times(results, DRAWN), "resultOf(" + (results - 1) + ")", "d");
                promise = 45;
                due(times(results, DRAWN), "amend(" + (results - 1) + ",0)", "d");
                due(times(results, DRAWN) + "amend(0,0) ", "resultOf(" + (results - 1) + ")", results == 1 ? "0" : "d");
            }
        }
        promise = 44;
        due(LIMITED, "resultOf(0)", INDEX);
        due(DRAWN + LIMITED, "resultOf(1)", INDEX);
        promise = 45;
        for (String wrong : List.of("-", "x", "2", "/", "D", "T", "c", "e", "s", "u", "#0", "#1", "#65535")) {
            due(DRAWN, "amend(0," + wrong + ")", ARGUMENT);
            due(DRAWN, "amend(1," + wrong + ")", INDEX);
        }
        for (String right : List.of("0 2 0", "1 0 2", "t 1 1", "d 1 1")) {
            String[] parts = right.split(" ");
            due(DRAWN, "amend(0," + parts[0] + ")", "d");
            due(DRAWN + "amend(0," + parts[0] + ") ", "amend(0,t)", parts[0]);
            due(DRAWN + "amend(0," + parts[0] + ") ", "resultOf(0)", parts[0]);
            promise = 46;
            due(DRAWN + "amend(0," + parts[0] + ") ", "points(0)", parts[1]);
            due(DRAWN + "amend(0," + parts[0] + ") ", "points(1)", parts[2]);
            due(DRAWN + DRAWN + "amend(0," + parts[0] + ") ", "points(0)", Integer.parseInt(parts[1]) + 1);
            promise = 45;
        }
        due(DRAWN + "amend(0,1) " + LIMITED, "result()", "-");
        for (String call : List.of("46 points", "47 netRate")) {
            promise = Integer.parseInt(call.substring(0, 2));
            for (String before : List.of("", LIMITED, DONE)) {
                for (int wrong : new int[] {LEAST, -1, 2, MOST}) {
                    due(before, call.substring(3) + "(" + wrong + ")", ARGUMENT);
                }
            }
        }
        promise = 46;
        due(times(11, DRAWN) + "start(f,1,0,0) ", "points(1)", 11);
        due(times(11, DRAWN) + "start(f,1,0,0) time() ", "points(1)", 12);
        due("start(l,1,0,0) bowl(0) 1 0 0 0 0 0 bowl(0) 2 ", "points(1)", 2);
        due("start(l,1,0,0) bowl(0) 1 0 0 0 0 0 bowl(0) 2 ", "points(0)", 0);
        due("start(l,1,0,0) rain(1) ", "points(0)", 1);
        due("start(l,1,0,0) rain(1) ", "points(1)", 1);
        netRates();
    }

    private static void netRates() {
        promise = 47;
        due("start(l,1,0,0) bowl(0) 1 0 0 0 0 0 ", "netRate(0)", 0);
        due("start(f,1,0,0) bowl(0) 6 time() ", "netRate(0)", 0);
        // Without balls this part is 0.
        due("start(l,1,0,0) rain(1) ", "netRate(0)", 0);
        due("start(l,1,0,0) bowl(0) 1 0 0 0 0 0 bowl(0) w1 ", "netRate(0)", 1000);
        due("start(l,1,0,0) bowl(0) 1 0 0 0 0 0 bowl(0) w1 ", "netRate(1)", -1000);
        due("start(l,1,0,0) bowl(0) 1 0 0 0 0 0 bowl(0) 2 ", "netRate(0)", 1000 - 12000);
        // Rounded down: 6000 times 1 by 7, and each part for itself.
        String seven = "start(l,1,0,0) miscount(7) bowl(0) 1 0 0 0 0 0 0 ";
        due(seven + "bowl(0) " + SIX, "netRate(0)", 857);
        due(seven + "bowl(0) " + SIX, "netRate(1)", -857);
        due(seven + "miscount(7) bowl(0) 1 0 0 0 0 0 0 ", "netRate(0)", 0);
        due(seven + "bowl(0) n 1 ", "netRate(1)", 12000 - 857);
        due("start(l,1,0,0) bowl(0) 0 0 0 0 0 q ", "netRate(0)", 0);
        // All matches together: 1 run of 7 balls and 1 of 6 are 2 of 13.
        due(seven + "bowl(0) " + SIX + "start(l,1,0,0) bowl(0) 1 0 0 0 0 0 bowl(0) " + SIX, "netRate(0)", 923);
        due(seven + "bowl(0) " + SIX + DRAWN, "netRate(0)", 857);
        due(seven + "bowl(0) " + SIX + "amend(0,t) ", "netRate(0)", 857);
        // Ten out: 6 for each of the overs that are left by rain; with nine out the balls that counted.
        String ten = "B B B B B B bowl(1) 1 B B B B ";
        due("start(l,5,0,0) bowl(0) " + ten + "bowl(0) 2 ", "netRate(0)", 200 - 12000);
        due("start(l,5,0,0) rain(2) bowl(0) " + ten + "bowl(0) 2 ", "netRate(0)", 333 - 12000);
        due("start(l,5,0,0) bowl(0) " + ten + "bowl(0) " + "B B B B B B bowl(1) B B B B ", "netRate(1)", -200);
        due("start(l,2,0,0) bowl(0) B B B B B B bowl(1) 1 B B B 0 0 bowl(0) 2 ", "netRate(0)", 500 - 12000);
        due("start(l,2,0,0) bowl(0) B B B B B B bowl(1) 1 B B B 0 B bowl(0) 2 ", "netRate(0)", 500 - 12000);
        due("start(l,2,0,0) miscount(7) bowl(0) B B B B B B 1 bowl(1) B B B 0 0 0 bowl(0) 2 ", "netRate(0)", 461 - 12000);
        due("start(l,2,0,0) miscount(7) bowl(0) B B B B B B 1 bowl(1) B B B B bowl(0) 2 ", "netRate(0)", 500 - 12000);
        // Extra overs are no part of it.
        due("start(l,1,1,0) bowl(0) 1 0 0 0 0 0 bowl(0) 1 0 0 0 0 0 bowl(0) 6! 0 0 0 0 0 bowl(0) " + SIX, "netRate(1)", 0);
    }

    private static void figures() {
        promise = 48;
        due("", "checksum()", 0);
        due(FULL + "bowl(0) 2 ", "checksum()", 2);
        due(BOWLS + "B ", "checksum()", 1000);
        due(FULL + "bowl(0) 2 B declare() ", "checksum()", 31 * 1002);
        due(FULL + "bowl(0) 2 B declare() bowl(0) 1 declare() bowl(0) 3 declare() bowl(0) 1 ", "checksum()",
                ((31 * 1002 + 1) * 31 + 3) * 31 + 1);
        due(FULL + "bowl(0) 2 B declare() time() ", "checksum()", 31 * 1002);
        due(FULL + "bowl(0) 2 B declare() time() " + LIMITED, "checksum()", 0);
        promise = 49;
        due(LIMITED, "extraShare(0)", ARITHMETIC);
        due(LIMITED, "extraShare(1)", INDEX);
        due(BOWLS + "q 0 1x B ", "extraShare(0)", ARITHMETIC);
        due(BOWLS + "1 ", "extraShare(0)", 0.0f);
        due(BOWLS + "w ", "extraShare(0)", 1.0f);
        due(BOWLS + "1 2 b1 ", "extraShare(0)", 1f / 4f);
        due(BOWLS + "1 n w1 b1 l1 p ", "extraShare(0)", 10f / 11f);
        due(FULL + "bowl(0) 1 declare() ", "extraShare(1)", ARITHMETIC);
        promise = 50;
        due(LIMITED, "meanRuns(0)", ARITHMETIC);
        due(LIMITED, "meanRuns(1)", INDEX);
        due(BOWLS + "6! ", "meanRuns(0)", ARITHMETIC);
        due(BOWLS + "C? nB ", "meanRuns(0)", ARITHMETIC);
        due(BOWLS + "B ", "meanRuns(0)", 0.0);
        due(BOWLS + "B 1 Rz B ", "meanRuns(0)", 1.0 / 3.0);
        due(FULL + TEN_OUT, "meanRuns(0)", 0.0);
        due(FULL + TEN_OUT, "meanRuns(1)", ARITHMETIC);
    }

    /** What is kept is full with the last of 512 calls: each act of them is done again, too. */
    private static void manyCalls() {
        promise = 42;
        Run run = made("start(f,5,0,0) " + times(255, "hurt(9) send(9) "));
        check(run.call("isSound()").equals("true"), "not sound with 510 acts");
        run = made("start(f,5,0,0) " + times(510, "hurt(9) "));
        check(run.call("declare()").equals("0"), "the act 511 does not declare");
        StringBuilder words = new StringBuilder("start(f,5,0,0) bowl(0) ");
        run = made(words + times(252, "n ") + times(3, "type:p "));
        check(run.call("runsBy(0,1)").equals("504"), "not all of the balls are told again");
        run = made("start(f,5,0,0) bowl(0) " + times(254, "n "));
        check(run.call("runsBySecond(0)").equals("254"), "not all of the balls are noted");
        run = made("start(f,5,0,0) bowl(0) " + times(254, "n "));
        check(run.call("isSound()").equals("true"), "not sound with 254 balls");
        run = made("start(f,5,0,0) bowl(0) " + times(254, "w "));
        check(run.call("signAt(253,0)").equals("w"), "the last ball is not kept");
        run = made("start(l,50,0,0) " + times(509, "miscount(7) ") + "rain(49) ");
        check(run.call("runsBy(0,0)").equals("0"), "a limited match of 511 acts");
    }

    public static void main(String[] args) {
        prepare();
        newObject();
        starting();
        typing();
        texts();
        bowlers();
        balls();
        ends();
        figuresOfBalls();
        batters();
        reviews();
        declaring();
        raining();
        resources();
        results();
        asking();
        falls();
        scorers();
        league();
        figures();
        manyCalls();
        for (String name : METHODS.keySet()) {
            check(ASKED.contains(name), "no row asks " + name);
        }
        System.out.println(passed + " passed, " + failed + " failed");
        if (failed != 0) {
            System.exit(1);
        }
    }
}
