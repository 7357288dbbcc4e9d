import java.util.ArrayList;
import java.util.List;
import java.util.NoSuchElementException;
import java.util.Random;
import java.util.regex.Matcher;
import java.util.regex.Pattern;

/**
 * Long runs of calls, each answer compared with a second program that keeps nothing but the acts
 * and the balls of each innings, and finds every figure anew from these.
 */
public final class OracleTests {
    private static final Pattern TEXT =
            Pattern.compile("([nw]?)(?:([bl]?)([0-6])(!?))?(x?)(B|C|L|S|H|O|Ra|Rz|)(\\+?)(\\??)([pq]?)");

    /** A text, taken apart. */
    private record Parts(String kind, String byes, int digit, boolean over, boolean shrt, String out, boolean cross,
            boolean err, String penalty) {
        static Parts of(String text) {
            Matcher m = TEXT.matcher(text);
            if (text.isEmpty() || !m.matches()) {
                throw new IllegalArgumentException();
            }
            int digit = m.group(3) == null ? -1 : Integer.parseInt(m.group(3));
            String byes = m.group(2) == null ? "" : m.group(2);
            Parts p = new Parts(m.group(1), byes, digit, "!".equals(m.group(4)), m.group(5).equals("x"), m.group(6),
                    m.group(7).equals("+"), m.group(8).equals("?"), m.group(9));
            boolean bad = p.kind.equals("w") && !byes.isEmpty();
            bad |= p.over && !(digit == 4 || digit == 6 && !p.kind.equals("w") && byes.isEmpty());
            bad |= p.shrt && (digit < 1 || p.over);
            bad |= digit >= 0 && "BCLSH".contains(p.out) && !p.out.isEmpty();
            bad |= p.cross && !List.of("C", "O", "Ra", "Rz").contains(p.out);
            String bare = text.replaceAll("[pq]$", "");
            bad |= p.err && !(p.kind.isEmpty() && (p.out.equals("C") || p.out.equals("L")) || bare.equals("0?"));
            if (bad) {
                throw new IllegalArgumentException();
            }
            return p;
        }

        boolean reviewable() {
            return kind.isEmpty() && (out.equals("C") || out.equals("L") || err);
        }

        boolean saysOut() {
            return out.isEmpty() == err;
        }
    }

    /** A ball as it was bowled. */
    private static final class Delivery {
        Parts p;
        int striker;
        int bowler;
        int over;
        boolean endsOver;
        int bat;
        int extraN;
        int extraW;
        int extraB;
        int extraL;
        int extraP;
        char out = ' ';

        int total() {
            return bat + extraN + extraW + extraB + extraL + extraP;
        }

        int conceded() {
            return bat + extraN + extraW;
        }
    }

    private static final class Inn {
        int team;
        int overs;
        int most;
        int resources;
        boolean declared;
        boolean touched;
        List<Delivery> balls = new ArrayList<>();
        StringBuilder states = new StringBuilder("ii---------");
        int[] ends = {0, 1};
        int sent = -1;
        int bowler = -1;
        int overNumber;
        int length = 6;
        StringBuilder hurt = new StringBuilder("...........");
        int[] reviews = {2, 2};

        int runs() {
            return balls.stream().mapToInt(Delivery::total).sum();
        }

        int wickets() {
            return (int) balls.stream().filter(d -> d.out != ' ').count();
        }

        int counted() {
            return (int) balls.stream().filter(d -> d.p.kind.isEmpty()).count();
        }

        List<Delivery> ofOver(int over) {
            return balls.stream().filter(d -> d.over == over).toList();
        }

        int countedNow() {
            return (int) ofOver(overNumber).stream().filter(d -> d.p.kind.isEmpty()).count();
        }

        boolean overOn() {
            return !ofOver(overNumber).isEmpty();
        }

        int begunBy(int player) {
            int begun = 0;
            for (int o = 0; o <= overNumber; o++) {
                List<Delivery> all = ofOver(o);
                if (!all.isEmpty() && all.get(0).bowler == player) {
                    begun++;
                }
            }
            return begun;
        }

        int lastOfOverBefore() {
            List<Delivery> all = ofOver(overNumber - 1);
            return all.isEmpty() ? -1 : all.get(all.size() - 1).bowler;
        }

        int coming() {
            if (sent >= 0) {
                return sent;
            }
            int fresh = states.indexOf("-");
            return fresh >= 0 ? fresh : states.indexOf("r");
        }

        int leave(int who, char how) {
            int next = coming();
            states.setCharAt(who, how);
            if (next >= 0) {
                states.setCharAt(next, 'i');
                ends[ends[0] == who ? 0 : 1] = next;
                sent = -1;
            }
            return next;
        }

        void swap() {
            int was = ends[0];
            ends[0] = ends[1];
            ends[1] = was;
        }

        boolean over() {
            return declared || wickets() >= most || overNumber >= overs;
        }

        int maidens(int player) {
            int maidens = 0;
            for (int o = 0; o < overNumber; o++) {
                List<Delivery> all = ofOver(o);
                if (all.stream().allMatch(d -> d.bowler == player && d.conceded() == 0)) {
                    maidens++;
                }
            }
            return maidens;
        }

        List<Integer> falls() {
            List<Integer> falls = new ArrayList<>();
            int runs = 0;
            for (Delivery d : balls) {
                runs += d.total();
                if (d.out != ' ') {
                    falls.add(runs);
                }
            }
            return falls;
        }
    }

    private record Act(String kind, int value, String text, String[] noted) {
    }

    /** What acts make. */
    private static final class World {
        boolean full;
        int number;
        int version;
        int first;
        char result = '-';
        int[] bonus = {0, 0};
        List<Inn> inns = new ArrayList<>();

        World(boolean full, int number, int version, int first) {
            this.full = full;
            this.number = number;
            this.version = version;
            this.first = first;
            begin(first, full ? 99999 : number, 10);
        }

        void begin(int team, int overs, int most) {
            Inn inn = new Inn();
            inn.team = team;
            inn.overs = overs;
            inn.most = most;
            inn.resources = overs * 72;
            inns.add(inn);
        }

        Inn now() {
            if (result != '-') {
                throw new IllegalStateException();
            }
            return inns.get(inns.size() - 1);
        }

        Object perform(Act act, boolean second) {
            Object answer;
            switch (act.kind) {
                case "bowl" -> answer = bowl(act.value);
                case "ball" -> answer = ball(Parts.of(second ? act.noted[0] : act.text), false);
                case "send" -> answer = send(act.value);
                case "retire" -> answer = retire(act.value);
                case "hurt" -> answer = hurt(act.value);
                case "miscount" -> answer = miscount(act.value);
                case "declare" -> answer = declare();
                case "enforce" -> answer = enforce();
                case "rain" -> answer = rain(act.value);
                default -> answer = time();
            }
            if (!act.kind.equals("ball") && !act.kind.equals("declare") && result == '-') {
                now().touched = true;
            }
            close();
            return answer;
        }

        Object bowl(int p) {
            Inn inn = now();
            boolean bad = inn.hurt.charAt(p) == 'h' || p == inn.lastOfOverBefore();
            if (inn.overOn()) {
                bad |= p != inn.bowler && inn.hurt.charAt(inn.bowler) != 'h';
            } else {
                bad |= !full && inn.begunBy(p) >= (number + 4) / 5;
            }
            if (bad) {
                throw new UnsupportedOperationException();
            }
            inn.bowler = p;
            return inn.begunBy(p) + (inn.overOn() ? 0 : 1);
        }

        Object ball(Parts p, boolean righted) {
            Inn inn = now();
            if (inn.bowler < 0 || inn.hurt.charAt(inn.bowler) == 'h') {
                throw new UnsupportedOperationException();
            }
            inn.touched = true;
            Delivery d = new Delivery();
            d.p = p;
            d.striker = inn.ends[0];
            d.bowler = inn.bowler;
            d.over = inn.overNumber;
            int other = inn.ends[1];
            int runs = Math.max(p.digit, 0) - (p.shrt ? 1 : 0);
            d.extraN = p.kind.equals("n") ? 1 + version : 0;
            d.extraW = p.kind.equals("w") ? 1 + runs : 0;
            d.extraB = p.byes.equals("b") ? runs : 0;
            d.extraL = p.byes.equals("l") ? runs : 0;
            d.bat = p.kind.equals("w") || !p.byes.isEmpty() ? 0 : runs;
            d.extraP = p.penalty.equals("p") ? 5 : 0;
            boolean err = p.err && !righted;
            String out = err ? p.out.isEmpty() ? "L" : "" : p.out;
            if (p.kind.equals("n") && !out.matches("O|Ra|Rz") || p.kind.equals("w") && out.matches("[BCL]")) {
                out = "";
            }
            if (!p.over && p.digit > 0 && p.digit % 2 == 1) {
                inn.swap();
            }
            if (p.cross && (!p.out.equals("C") || version == 0 && out.equals("C"))) {
                inn.swap();
            }
            if (!out.isEmpty()) {
                d.out = out.charAt(0);
                inn.leave(out.equals("Rz") ? other : d.striker, d.out);
            }
            inn.balls.add(d);
            if (p.penalty.equals("q")) {
                bonus[1 - inn.team] += 5;
            }
            if (inn.countedNow() >= inn.length) {
                inn.overNumber++;
                inn.length = 6;
                inn.bowler = -1;
                inn.swap();
            }
            return d.total();
        }

        Object send(int p) {
            Inn inn = now();
            if (inn.states.charAt(p) != '-') {
                throw new UnsupportedOperationException();
            }
            int would = inn.coming();
            inn.sent = p;
            return would;
        }

        Object retire(int isStriker) {
            Inn inn = now();
            if (inn.coming() < 0) {
                throw new UnsupportedOperationException();
            }
            return inn.leave(inn.ends[1 - isStriker], 'r');
        }

        Object hurt(int p) {
            Inn inn = now();
            boolean was = inn.hurt.charAt(p) == 'h';
            inn.hurt.setCharAt(p, 'h');
            return !was;
        }

        Object miscount(int n) {
            if (n < 5 || n > 7 || result == '-' && n <= now().countedNow()) {
                throw new IllegalArgumentException();
            }
            int was = now().length;
            now().length = n;
            return was;
        }

        Object declare() {
            Inn inn = now();
            if (!full) {
                throw new UnsupportedOperationException();
            }
            inn.declared = true;
            inn.touched = true;
            return inn.runs();
        }

        Object enforce() {
            int less = inns.size() < 2 ? 0 : inns.get(0).runs() - inns.get(1).runs();
            if (result != '-' || !full || inns.size() != 3 || now().touched || less < number) {
                throw new UnsupportedOperationException();
            }
            now().team = 1 - first;
            return less;
        }

        Object rain(int n) {
            Inn inn = now();
            if (full || inns.size() > 2 || n > inn.overs - inn.overNumber - (inn.overOn() ? 1 : 0)) {
                throw new UnsupportedOperationException();
            }
            inn.overs -= n;
            inn.resources -= n * 6 * (12 - inn.wickets());
            return inn.overs;
        }

        Object time() {
            now();
            if (!full) {
                throw new IllegalStateException();
            }
            result = 'd';
            return true;
        }

        int all(int team) {
            return bonus[team] + inns.stream().filter(i -> i.team == team).mapToInt(Inn::runs).sum();
        }

        int target() {
            Inn inn = now();
            if (full && inns.size() == 4) {
                return all(1 - inn.team) + 1 - (all(inn.team) - inn.runs());
            }
            if (!full && inns.size() == 4) {
                return inns.get(2).runs() + 1;
            }
            if (full || inns.size() != 2) {
                throw new NoSuchElementException();
            }
            int score = inns.get(0).runs() + bonus[first];
            int r0 = inns.get(0).resources;
            return r0 == inn.resources ? score + 1 : score * inn.resources / r0 + 1;
        }

        boolean reached() {
            if (inns.size() == 2 && !full) {
                return now().runs() + bonus[now().team] >= target();
            }
            return inns.size() == 4 && now().runs() >= target();
        }

        void close() {
            while (result == '-' && (now().over() || reached())) {
                Inn inn = now();
                int a = all(first);
                int b = all(1 - first);
                switch (inns.size() + (full ? 10 : 0)) {
                    case 1, 11 -> begin(1 - first, inn.overs, 10);
                    case 2 -> {
                        int has = inn.runs() + bonus[inn.team];
                        if (has == target() - 1 && version == 1) {
                            begin(1 - first, 1, 2);
                        } else if (has == target() - 1) {
                            result = 't';
                        } else {
                            result = winner(has >= target() ? 1 - first : first);
                        }
                    }
                    case 3 -> begin(first, 1, 2);
                    case 12 -> begin(first, inn.overs, 10);
                    case 13 -> {
                        int twice = inn.team;
                        if (all(twice) < all(1 - twice)) {
                            result = winner(1 - twice);
                        } else {
                            begin(1 - twice, inn.overs, 10);
                        }
                    }
                    case 14 -> result = a == b ? 't' : winner(a > b ? first : 1 - first);
                    default -> {
                        int c = inns.get(2).runs();
                        int d = inns.get(3).runs();
                        result = c == d ? 't' : winner(c > d ? 1 - first : first);
                    }
                }
            }
        }

        char winner(int team) {
            return (char) ('0' + team);
        }
    }

    /** The second program. */
    private static final class Oracle {
        StringBuilder buffer = new StringBuilder();
        List<Act> acts = new ArrayList<>();
        int[] told;
        World live;
        List<Character> results = new ArrayList<>();
        List<World> worlds = new ArrayList<>();

        World build(int upTo, boolean second, int version) {
            World w = new World(live.full, live.number, version, live.first);
            boolean[] done = new boolean[acts.size() + 1];
            for (int i = 0; i < upTo; i++) {
                Act act = acts.get(i);
                try {
                    if (act.kind.equals("review")) {
                        if (done[i - 1]) {
                            w = reviewed(w, i, second, version);
                        }
                    } else {
                        w.perform(act, second);
                        done[i] = true;
                    }
                } catch (RuntimeException e) {
                    done[i] = false;
                }
            }
            return w;
        }

        World reviewed(World w, int i, boolean second, int version) {
            Act act = acts.get(i - 1);
            Parts p = Parts.of(second ? act.noted[0] : act.text);
            World ahead = build(i - 1, second, version);
            int index = ahead.inns.size() - 1;
            int batting = ahead.now().team;
            int against = p.saysOut() ? batting : 1 - batting;
            if (!p.reviewable() || w.result != '-' || w.inns.get(index).reviews[against] == 0) {
                throw new UnsupportedOperationException();
            }
            if (p.err) {
                ahead.ball(p, true);
                ahead.close();
                return ahead;
            }
            w.inns.get(index).reviews[against]--;
            return w;
        }

        Object start(int format, int number, int version, int first) {
            if (!(format == 'l' && number <= 50 || format == 'f' && number <= 999) || number < 1 || version < 0
                    || version > 1 || first < 0 || first > 1) {
                throw new IllegalArgumentException();
            }
            if (live != null && live.result == '-' || results.size() == 12) {
                throw new IllegalStateException();
            }
            live = new World(format == 'f', number, version, first);
            acts.clear();
            return results.size();
        }

        Object tell(Act act) {
            if (live == null) {
                if (act.kind.equals("enforce")) {
                    throw new UnsupportedOperationException();
                }
                throw new IllegalStateException();
            }
            live = build(acts.size(), false, live.version);
            Object answer = live.perform(act, false);
            acts.add(act);
            keep();
            return answer;
        }

        void keep() {
            if (live.result != '-') {
                results.add(live.result);
                worlds.add(live);
            }
        }

        Object review() {
            int last = acts.size() - 1;
            if (live == null || last < 0 || !acts.get(last).kind.equals("ball")) {
                throw new UnsupportedOperationException();
            }
            live = reviewed(build(acts.size(), false, live.version), last + 1, false, live.version);
            acts.add(new Act("review", 0, "", null));
            keep();
            return Parts.of(acts.get(last).text).err;
        }

        List<Act> balls() {
            return acts.stream().filter(a -> a.kind.equals("ball")).toList();
        }

        Object note() {
            Parts.of(buffer.toString());
            List<Act> balls = balls();
            if (balls.isEmpty()) {
                throw new UnsupportedOperationException();
            }
            Act last = balls.get(balls.size() - 1);
            last.noted[0] = buffer.toString();
            buffer.setLength(0);
            return !last.noted[0].equals(last.text);
        }

        Inn inn(World w, int index) {
            if (w == null || index < 0 || index >= w.inns.size()) {
                throw new IndexOutOfBoundsException();
            }
            return w.inns.get(index);
        }

        Object again(int innings, boolean second, int version) {
            if (version < 0 || version > 1) {
                throw new IllegalArgumentException();
            }
            inn(live, live == null ? -1 : 0);
            return inn(build(acts.size(), second, version), innings).runs();
        }

        int part(int team) {
            long runs = 0;
            long balls = 0;
            for (World w : worlds) {
                for (Inn inn : w.full ? List.<Inn>of() : w.inns.subList(0, 2)) {
                    if (inn.team == team) {
                        runs += inn.runs();
                        balls += inn.wickets() == 10 ? inn.overs * 6L : inn.counted();
                    }
                }
            }
            return balls == 0 ? 0 : (int) (6000 * runs / balls);
        }

        int points(int team) {
            int points = 0;
            for (char r : results) {
                points += r == 't' || r == 'd' ? 1 : r == '0' + team ? 2 : 0;
            }
            return points;
        }
    }

    private interface Call {
        Object answer();
    }

    private static String outcome(Call call) {
        try {
            return String.valueOf(call.answer());
        } catch (IndexOutOfBoundsException | NoSuchElementException | IllegalArgumentException | IllegalStateException
                | UnsupportedOperationException e) {
            return e.getClass().getSimpleName();
        } catch (ArithmeticException e) {
            return e.getMessage() == null ? "ArithmeticException" : "a machine's " + e;
        }
    }

    private static int compared = 0;
    private static int differing = 0;
    private static List<String> trace = new ArrayList<>();

    private static String same(String name, Call got, Call want) {
        String answer = outcome(got);
        String due = outcome(want);
        compared++;
        if (!answer.equals(due)) {
            differing++;
            if (differing <= 3) {
                System.out.println(trace + "\n" + name + " answered " + answer + ", due is " + due);
            }
        }
        return due;
    }

    private static void requirePlayer(int p) {
        if (p < 0 || p > 10) {
            throw new IllegalArgumentException();
        }
    }

    private static int index(int p) {
        if (p < 0 || p > 10) {
            throw new IndexOutOfBoundsException();
        }
        return p;
    }

    private static void compareAll(Stumpward x, Oracle o) {
        World w = o.live;
        same("innings", () -> x.innings(), () -> w == null ? 0 : w.inns.size());
        same("isOn", () -> x.isOn(), () -> w != null && w.result == '-');
        same("result", () -> x.result(),
                () -> w == null || w.result == '-' ? '-' : o.results.get(o.results.size() - 1));
        same("striker", () -> x.striker(), () -> onOf(w).ends[0]);
        same("other", () -> x.other(), () -> onOf(w).ends[1]);
        same("target", () -> x.target(), () -> {
            onOf(w);
            return w.target();
        });
        same("told", () -> x.told(), () -> o.balls().size());
        same("isSound", () -> x.isSound(), () -> true);
        same("checksum", () -> x.checksum(), () -> {
            long sum = 0;
            for (Inn inn : w == null ? List.<Inn>of() : w.inns) {
                sum = sum * 31 + inn.runs() + 1000L * inn.wickets();
            }
            return sum;
        });
        for (int t = -1; t <= 2; t++) {
            int team = t;
            Call bad = () -> {
                if (team < 0 || team > 1) {
                    throw new IllegalArgumentException();
                }
                return 0;
            };
            same("bonus " + t, () -> x.bonus(team), () -> bad.answer() == null || w == null ? 0 : w.bonus[team]);
            same("reviews " + t, () -> x.reviews(team), () -> bad.answer() == null ? 0 : onOf(w).reviews[team]);
            same("points " + t, () -> x.points(team), () -> bad.answer() == null ? 0 : o.points(team));
            same("netRate " + t, () -> x.netRate(team),
                    () -> bad.answer() == null ? 0 : o.part(team) - o.part(1 - team));
        }
        same("firstDiffering", () -> x.firstDiffering(), () -> {
            List<Act> balls = o.balls();
            for (int i = 0; i < balls.size(); i++) {
                if (!balls.get(i).text.equals(balls.get(i).noted[0])) {
                    return i;
                }
            }
            throw new NoSuchElementException();
        });
        for (int i = -1; i <= 4; i++) {
            compareInnings(x, o, w, i);
        }
    }

    private static Inn onOf(World w) {
        if (w == null) {
            throw new IllegalStateException();
        }
        return w.now();
    }

    private static void compareInnings(Stumpward x, Oracle o, World w, int i) {
        String at = " of " + i;
        same("team" + at, () -> x.team(i), () -> o.inn(w, i).team);
        same("runs" + at, () -> x.runs(i), () -> o.inn(w, i).runs());
        same("wickets" + at, () -> x.wickets(i), () -> o.inn(w, i).wickets());
        same("balls" + at, () -> x.balls(i), () -> o.inn(w, i).counted());
        same("resources" + at, () -> x.resources(i), () -> {
            Inn inn = o.inn(w, i);
            if (w.full || i > 1) {
                throw new UnsupportedOperationException();
            }
            return inn.resources;
        });
        for (char kind : "nwblpx".toCharArray()) {
            same("extras " + kind + at, () -> x.extras(i, kind), () -> {
                List<Delivery> all = o.inn(w, i).balls;
                return switch (kind) {
                    case 'n' -> all.stream().mapToInt(d -> d.extraN).sum();
                    case 'w' -> all.stream().mapToInt(d -> d.extraW).sum();
                    case 'b' -> all.stream().mapToInt(d -> d.extraB).sum();
                    case 'l' -> all.stream().mapToInt(d -> d.extraL).sum();
                    case 'p' -> all.stream().mapToInt(d -> d.extraP).sum();
                    default -> throw new IllegalArgumentException();
                };
            });
        }
        same("partnership" + at, () -> x.partnership(i), () -> {
            Inn inn = o.inn(w, i);
            int greatest = 0;
            int before = 0;
            List<Integer> ends = inn.falls();
            ends.add(inn.runs());
            for (int end : ends) {
                greatest = Math.max(greatest, end - before);
                before = end;
            }
            return greatest;
        });
        for (int f = -1; f <= 12; f++) {
            int wicket = f;
            same("fall " + f + at, () -> x.fall(i, wicket), () -> {
                List<Integer> falls = o.inn(w, i).falls();
                if (wicket < 1 || wicket > falls.size()) {
                    throw new NoSuchElementException();
                }
                return falls.get(wicket - 1);
            });
        }
        for (int p = -1; p <= 11; p++) {
            comparePlayer(x, o, w, i, p);
        }
        same("extraShare" + at, () -> x.extraShare(i), () -> {
            Inn inn = o.inn(w, i);
            if (inn.runs() == 0) {
                throw new ArithmeticException();
            }
            return (float) (inn.runs() - inn.balls.stream().mapToInt(d -> d.bat).sum()) / (float) inn.runs();
        });
        same("meanRuns" + at, () -> x.meanRuns(i), () -> {
            Inn inn = o.inn(w, i);
            if (inn.wickets() == 0) {
                throw new ArithmeticException();
            }
            return (double) inn.runs() / inn.wickets();
        });
        same("runsBySecond" + at, () -> x.runsBySecond(i), () -> o.again(i, true, w == null ? 0 : w.version));
        same("runsBy 0" + at, () -> x.runsBy(i, 0), () -> o.again(i, false, 0));
        same("runsBy 1" + at, () -> x.runsBy(i, 1), () -> o.again(i, false, 1));
        same("runsBy 2" + at, () -> x.runsBy(i, 2), () -> o.again(i, false, 2));
    }

    private static void comparePlayer(Stumpward x, Oracle o, World w, int i, int p) {
        String at = " of " + i + ", player " + p;
        same("batted" + at, () -> x.batted(i, p), () -> {
            List<Delivery> all = o.inn(w, i).balls;
            index(p);
            return all.stream().filter(d -> d.striker == p).mapToInt(d -> d.bat).sum();
        });
        same("faced" + at, () -> x.faced(i, p), () -> {
            List<Delivery> all = o.inn(w, i).balls;
            index(p);
            return (int) all.stream().filter(d -> d.striker == p && !d.p.kind.equals("w")).count();
        });
        same("boundaries" + at, () -> x.boundaries(i, p), () -> {
            List<Delivery> all = o.inn(w, i).balls;
            index(p);
            return (int) all.stream().filter(d -> d.striker == p && d.p.over && d.bat > 0).count();
        });
        same("state" + at, () -> x.state(i, p), () -> o.inn(w, i).states.charAt(index(p)));
        for (char what : "brwmx".toCharArray()) {
            same("bowled " + what + at, () -> x.bowled(i, p, what), () -> {
                Inn inn = o.inn(w, i);
                index(p);
                List<Delivery> mine = inn.balls.stream().filter(d -> d.bowler == p).toList();
                return switch (what) {
                    case 'b' -> (int) mine.stream().filter(d -> d.p.kind.isEmpty()).count();
                    case 'r' -> mine.stream().mapToInt(Delivery::conceded).sum();
                    case 'w' -> (int) mine.stream().filter(d -> "BCLSH".indexOf(d.out) >= 0).count();
                    case 'm' -> inn.maidens(p);
                    default -> throw new IllegalArgumentException();
                };
            });
        }
    }

    private static final String[] COMMON = "0 0 1 1 2 3 4! 6! 0 1 2x C L C? L? 0? C+ B Ra Rz 1Rz+ w n".split(" ");
    private static final String[] RARE = ("b1 l2 b4! l4! nb4! n4! n6! w4! w2 w1x nC nB nC+ wS wH wB wC nO wO wRa nRz 5 3x O O+ Ra+ "
            + "Rz+ 2Ra 1O 3Rz H S C+? C?p L?q 0?p 0?q p q np wq 1p 4!q Cp Bq C+q 6 nl3xp wb1 5! b R 1? B? + x").split(" ");

    private static String textOf(Random r, int wildness) {
        String text = r.nextInt(100) < wildness ? RARE[r.nextInt(RARE.length)] : COMMON[r.nextInt(COMMON.length)];
        return text;
    }

    private static void type(Stumpward x, Oracle o, String text) {
        x.clear();
        o.buffer.setLength(0);
        for (char sign : text.toCharArray()) {
            x.type(sign);
            o.buffer.append(sign);
        }
    }

    private static Object ball(Oracle o) {
        String text = o.buffer.toString();
        Parts.of(text);
        Object answer = o.tell(new Act("ball", 0, text, new String[] {text}));
        o.buffer.setLength(0);
        return answer;
    }

    private static void step(Stumpward x, Oracle o, Random r, int wildness) {
        int pick = r.nextInt(100);
        int p = r.nextInt(40) == 0 ? r.nextInt(15) - 2 : r.nextInt(11);
        if (o.live == null || o.live.result != '-' && r.nextInt(4) > 0) {
            int format = r.nextInt(20) == 0 ? 'x' : r.nextBoolean() ? 'l' : 'f';
            int number = r.nextInt(8) == 0 ? r.nextInt(60) - 2 : 1 + r.nextInt(3);
            int version = r.nextInt(20) == 0 ? 2 : r.nextInt(2);
            int first = r.nextInt(20) == 0 ? -1 : r.nextInt(2);
            trace.add("start " + (char) format + number + " " + version + " " + first);
            same("start", () -> x.start((char) format, number, version, first),
                    () -> o.start(format, number, version, first));
        } else if (pick < 60) {
            if (r.nextInt(15) > 0 && o.live.result == '-' && o.live.now().bowler < 0) {
                tellBowler(x, o, r.nextInt(3) == 0 ? p : r.nextInt(3));
            }
            String text = textOf(r, wildness);
            type(x, o, text);
            trace.add("ball " + text);
            same("ball " + text, () -> x.ball(), () -> ball(o));
        } else if (pick < 70) {
            tellBowler(x, o, p);
        } else if (pick < 80) {
            trace.add("review");
            same("review", () -> x.review(), () -> o.review());
        } else if (pick < 86) {
            String text = textOf(r, wildness);
            type(x, o, text);
            trace.add("note " + text);
            same("note", () -> x.note(), () -> o.note());
        } else {
            rareStep(x, o, r, p);
        }
    }

    private static void tellBowler(Stumpward x, Oracle o, int p) {
        trace.add("bowl " + p);
        same("bowl " + p, () -> x.bowl(p), () -> {
            requirePlayer(p);
            return o.tell(new Act("bowl", p, "", null));
        });
    }

    private static void rareStep(Stumpward x, Oracle o, Random r, int p) {
        int small = r.nextInt(5) == 0 ? r.nextInt(60) - 3 : 1 + r.nextInt(3);
        int length = r.nextInt(6) == 0 ? r.nextInt(10) : 5 + r.nextInt(3);
        boolean flag = r.nextBoolean();
        int pick = r.nextInt(16);
        String name = pick < 3 ? "send " + p : pick < 6 ? "retire " + flag : pick < 9 ? "hurt " + p
                : pick < 11 ? "miscount " + length : pick < 12 ? "declare" : pick < 13 ? "enforce"
                : pick < 14 ? "rain " + small : pick < 15 && r.nextInt(4) == 0 ? "time" : "amend";
        trace.add(name);
        switch (name.split(" ")[0]) {
            case "send" -> same(name, () -> x.send(p), () -> {
                requirePlayer(p);
                return o.tell(new Act("send", p, "", null));
            });
            case "retire" -> same(name, () -> x.retire(flag), () -> o.tell(new Act("retire", flag ? 1 : 0, "", null)));
            case "hurt" -> same(name, () -> x.hurt(p), () -> {
                requirePlayer(p);
                return o.tell(new Act("hurt", p, "", null));
            });
            case "miscount" -> same(name, () -> x.miscount(length), () -> {
                if (length < 5 || length > 7) {
                    throw new IllegalArgumentException();
                }
                return o.tell(new Act("miscount", length, "", null));
            });
            case "declare" -> same(name, () -> x.declare(), () -> o.tell(new Act("declare", 0, "", null)));
            case "enforce" -> same(name, () -> x.enforce(), () -> o.tell(new Act("enforce", 0, "", null)));
            case "rain" -> same(name, () -> x.rain(small), () -> {
                if (small < 1 || small > 50) {
                    throw new IllegalArgumentException();
                }
                return o.tell(new Act("rain", small, "", null));
            });
            case "time" -> same(name, () -> x.time(), () -> o.tell(new Act("time", 0, "", null)));
            default -> {
                int match = r.nextInt(5) - 1;
                char result = "01tdx".charAt(r.nextInt(5));
                same(name, () -> x.amend(match, result), () -> {
                    if (match < 0 || match >= o.results.size()) {
                        throw new IndexOutOfBoundsException();
                    }
                    if (result == 'x') {
                        throw new IllegalArgumentException();
                    }
                    return o.results.set(match, result);
                });
            }
        }
    }

    public static void main(String[] args) {
        int runs = args.length > 0 ? Integer.parseInt(args[0]) : 300;
        long first = args.length > 1 ? Long.parseLong(args[1]) : 1;
        int[] reached = new int[6];
        for (long seed = first; seed < first + runs && differing == 0; seed++) {
            Random r = new Random(seed);
            Stumpward x = new Stumpward();
            Oracle o = new Oracle();
            trace = new ArrayList<>();
            int wildness = r.nextInt(60);
            int steps = 60 + r.nextInt(60);
            for (int i = 0; i < steps && differing == 0; i++) {
                step(x, o, r, wildness);
                if (i % 3 == 0 || i > steps - 4) {
                    compareAll(x, o);
                }
                if (o.live != null) {
                    reached[o.live.inns.size()]++;
                }
            }
        }
        System.out.println("steps in each innings: " + java.util.Arrays.toString(reached));
        System.out.println(compared + " answers compared, " + differing + " differ");
        if (differing != 0) {
            System.exit(1);
        }
    }
}
