import java.util.NoSuchElementException;

/** One test or more for each promise of the document, by its number. */
public final class PromiseTests {
    interface Call {
        Object answer();
    }

    private static final Class<?> ARGUMENT = IllegalArgumentException.class;
    private static final Class<?> STATE = IllegalStateException.class;
    private static final Class<?> INDEX = IndexOutOfBoundsException.class;
    private static final Class<?> NONE = NoSuchElementException.class;
    private static final Class<?> UNSUPPORTED = UnsupportedOperationException.class;
    private static final Class<?> ARITHMETIC = ArithmeticException.class;

    private static int passed = 0;
    private static int failed = 0;
    private static int promise = 0;
    private static Stumpward x;

    private static void check(boolean isRight, String what) {
        if (isRight) {
            passed++;
        } else {
            failed++;
            System.out.println("promise " + promise + ": " + what + " at " + Thread.currentThread().getStackTrace()[3]);
        }
    }

    private static void is(Object got, Object want) {
        check(got.equals(want), "answered " + got + ", due is " + want);
    }

    private static void thrown(Class<?> want, Call call) {
        Object got;
        try {
            got = call.answer();
        } catch (RuntimeException e) {
            got = e.getClass();
        }
        check(want.equals(got), "answered " + got + ", due is " + want);
    }

    private static void limited(int overs, int version, int first) {
        x = new Stumpward();
        x.start('l', overs, version, first);
    }

    private static void full(int runsLess, int version, int first) {
        x = new Stumpward();
        x.start('f', runsLess, version, first);
    }

    private static void type(String text) {
        x.clear();
        for (int i = 0; i < text.length(); i++) {
            x.type(text.charAt(i));
        }
    }

    private static int ball(String text) {
        type(text);
        return x.ball();
    }

    private static void balls(String texts) {
        for (String text : texts.split(" ")) {
            ball(text);
        }
    }

    private static void over(int bowler, String texts) {
        x.bowl(bowler);
        balls(texts);
    }

    /** Ten overs' worth of bowlers is not needed: in a full match two take turns. */
    private static void allOut() {
        for (int i = 0; i < 10; i++) {
            if (i % 6 == 0) {
                x.bowl(i / 6);
            }
            ball("B");
        }
    }

    private static boolean isBall(String text) {
        type(text);
        try {
            x.note();
            return true;
        } catch (UnsupportedOperationException e) {
            return true;
        } catch (IllegalArgumentException e) {
            return false;
        }
    }

    private static void theMatch() {
        promise = 1;
        x = new Stumpward();
        is(x.innings(), 0);
        is(x.result(), '-');
        is(x.isOn(), false);
        is(x.told(), 0);
        is(x.checksum(), 0L);
        is(x.clear(), 0);
        is(x.points(0), 0);
        is(x.netRate(1), 0);
        is(x.bonus(1), 0);
        thrown(INDEX, () -> x.resultOf(0));

        promise = 2;
        thrown(ARGUMENT, () -> x.start('L', 1, 0, 0));
        thrown(ARGUMENT, () -> x.start('l', 0, 0, 0));
        thrown(ARGUMENT, () -> x.start('l', 51, 0, 0));
        thrown(ARGUMENT, () -> x.start('f', 0, 0, 0));
        thrown(ARGUMENT, () -> x.start('f', 1000, 0, 0));
        thrown(ARGUMENT, () -> x.start('f', 9, -1, 0));
        thrown(ARGUMENT, () -> x.start('f', 9, 2, 0));
        thrown(ARGUMENT, () -> x.start('f', 9, 0, -1));
        thrown(ARGUMENT, () -> x.start('f', 9, 0, 2));
        is(x.innings(), 0);
        is(x.start('f', 999, 1, 1), 0);
        is(x.team(0), 1);
        thrown(STATE, () -> x.start('l', 50, 0, 0));
        thrown(ARGUMENT, () -> x.start('l', 51, 0, 0));
        x.time();
        for (int i = 1; i < 12; i++) {
            is(x.start('f', 1, 0, 0), i);
            x.time();
        }
        thrown(STATE, () -> x.start('l', 50, 0, 0));
        thrown(ARGUMENT, () -> x.start('x', 50, 0, 0));
        limited(50, 0, 0);
        is(x.resources(0), 50 * 72);

        promise = 3;
        x = new Stumpward();
        String signs = "nw0123456blx!BCLSHORaz+?pq";
        for (char sign = 0; sign < 300; sign++) {
            x.clear();
            char typed = sign;
            if (signs.indexOf(sign) >= 0) {
                is(x.type(typed), 1);
            } else {
                thrown(ARGUMENT, () -> x.type(typed));
            }
        }
        x.clear();
        for (int i = 1; i <= 12; i++) {
            is(x.type('n'), i);
        }
        thrown(STATE, () -> x.type('n'));
        thrown(ARGUMENT, () -> x.type('7'));

        promise = 4;
        is(x.clear(), 12);
        is(x.clear(), 0);
        is(x.type('w'), 1);

        bowling();
        texts();
        laws();
        reviewing();
        batters();
        endings();
    }

    private static void bowling() {
        promise = 5;
        x = new Stumpward();
        thrown(ARGUMENT, () -> x.bowl(-1));
        thrown(ARGUMENT, () -> x.bowl(11));
        thrown(STATE, () -> x.bowl(10));
        limited(7, 0, 0);
        is(x.bowl(10), 1);
        is(x.bowl(0), 1);
        balls("1 1 1");
        is(x.bowl(0), 1);
        thrown(UNSUPPORTED, () -> x.bowl(1));
        balls("1 1 1");
        thrown(UNSUPPORTED, () -> x.bowl(0));
        over(1, "0 0 0 0 0 0");
        is(x.bowl(0), 2);
        balls("n");
        is(x.bowl(0), 2);
        balls("0 0 0 0 0 0");
        over(1, "0 0 0");
        x.hurt(1);
        thrown(UNSUPPORTED, () -> x.bowl(1));
        thrown(UNSUPPORTED, () -> x.bowl(0));
        is(x.bowl(2), 0);
        thrown(UNSUPPORTED, () -> x.bowl(3));
        balls("0 0 0");
        thrown(UNSUPPORTED, () -> x.bowl(2));
        // A fifth of 7 overs, rounded up, is 2, and player 0 has begun so many.
        thrown(UNSUPPORTED, () -> x.bowl(0));
        is(x.bowl(3), 1);
        balls("0 0");
        x.hurt(3);
        // Who comes in for another one begins no over.
        is(x.bowl(0), 2);
        limited(5, 0, 0);
        over(0, "0 0 0 0 0 0");
        over(1, "0 0 0 0 0 0");
        thrown(UNSUPPORTED, () -> x.bowl(0));
        full(5, 0, 0);
        for (int i = 0; i < 3; i++) {
            is(x.bowl(0), i + 1);
            balls("0 0 0 0 0 0");
            is(x.bowl(1), i + 1);
            balls("0 0 0 0 0 0");
        }

        promise = 6;
        x = new Stumpward();
        thrown(ARGUMENT, () -> x.ball());
        type("1");
        thrown(STATE, () -> x.ball());
        x.start('l', 2, 0, 0);
        thrown(UNSUPPORTED, () -> x.ball());
        is(x.clear(), 1);
        x.bowl(4);
        x.hurt(4);
        type("1");
        thrown(UNSUPPORTED, () -> x.ball());
        x.bowl(5);
        is(x.ball(), 1);
        is(x.clear(), 0);
        is(ball("n4!"), 5);
        is(ball("w2"), 3);
        is(ball("p"), 5);
        is(ball("q"), 0);
        is(ball("nb3xq"), 3);
        is(x.told(), 6);

        promise = 10;
        x = new Stumpward();
        thrown(ARGUMENT, () -> x.hurt(-1));
        thrown(ARGUMENT, () -> x.hurt(11));
        thrown(STATE, () -> x.hurt(0));
        limited(1, 0, 0);
        is(x.hurt(3), true);
        is(x.hurt(3), false);
        over(0, "0 0 0 0 0 0");
        is(x.hurt(3), true);

        promise = 11;
        x = new Stumpward();
        thrown(ARGUMENT, () -> x.miscount(4));
        thrown(ARGUMENT, () -> x.miscount(8));
        thrown(STATE, () -> x.miscount(6));
        limited(3, 0, 0);
        is(x.miscount(5), 6);
        over(0, "0 0 0 0");
        is(x.striker(), 0);
        ball("0");
        is(x.striker(), 1);
        over(1, "0 0 0 0 0");
        thrown(ARGUMENT, () -> x.miscount(5));
        is(x.miscount(7), 6);
        balls("n 0");
        is(x.isOn(), true);
        thrown(ARGUMENT, () -> x.miscount(6));
        is(x.miscount(7), 7);
        ball("0");
        type("0");
        thrown(UNSUPPORTED, () -> x.ball());
        is(x.balls(0), 12);
        is(x.miscount(7), 6);
        over(2, "0 0 0 0 0 0 0");
        is(x.innings(), 2);
        is(x.miscount(6), 6);
    }

    private static void texts() {
        promise = 6;
        x = new Stumpward();
        String good = "n w 0 6 b0 l6 n0 w6 nb1 nl2 4! 6! n4! n6! w4! b4! l4! nb4! nl4! 1x 6x w1x b2x nl3x B C L S H O Ra Rz"
                + " nB nC nL nS nH wB wC wL wS wH nO wO wRa 0O 6Rz b1Ra 4!O 1xRz+ C+ O+ Ra+ Rz+ nC+ wC+ C? L? C+? 0? 0?p 0?q"
                + " C?p L?q p q np wq 1p 4!q nb4!Ra+p 4xp";
        for (String text : good.split(" ")) {
            check(isBall(text), "is a ball: " + text);
        }
        String bad = "b l nb wb wb1 wl1 wb4! nw wn 11 1b ! 5! 0! n! 3! w6! b6! l6! nb6! x 0x 4!x x1 wx BC R a z Raz RaRz"
                + " 1B 0C 2L 3S 4H n1B + B+ L+ S+ H+ 1+ ? B? S? H? O? Ra? 1? n0? w0? b0? l0? nC? wC? wL? nL? 0O? 0Ra? ?p pp pq qp"
                + " p1 C?+ ?C C+x 0?? 4!! 1xx C++ !4 n4!xp 6!! Cp? R+";
        for (String text : bad.split(" ")) {
            check(!isBall(text), "is no ball: " + text);
        }
        check(!isBall(""), "is no ball: nothing");
    }

    private static void laws() {
        promise = 21;
        limited(20, 0, 0);
        over(0, "n w n4! nb2 nl1 w3 w2x b3 l2 p np wq");
        is(x.extras(0, 'n'), 5);
        is(x.extras(0, 'w'), 1 + 4 + 2 + 1);
        is(x.extras(0, 'b'), 5);
        is(x.extras(0, 'l'), 3);
        is(x.extras(0, 'p'), 10);
        thrown(ARGUMENT, () -> x.extras(0, 'x'));
        thrown(INDEX, () -> x.extras(1, 'x'));
        promise = 18;
        is(x.runs(0), 5 + 8 + 5 + 3 + 10 + 4);
        thrown(INDEX, () -> x.runs(1));
        thrown(INDEX, () -> x.runs(-1));
        promise = 20;
        is(x.balls(0), 3);
        thrown(INDEX, () -> x.balls(1));
        promise = 22;
        is(x.bonus(0), 0);
        is(x.bonus(1), 5);
        thrown(ARGUMENT, () -> x.bonus(2));
        thrown(ARGUMENT, () -> x.bonus(-1));
        promise = 21;
        limited(20, 1, 0);
        over(0, "n n1 nC");
        is(x.extras(0, 'n'), 6);
        is(x.wickets(0), 0);

        promise = 24;
        x = new Stumpward();
        thrown(STATE, () -> x.striker());
        thrown(STATE, () -> x.other());
        limited(20, 0, 0);
        x.bowl(0);
        is(x.striker(), 0);
        balls("1");
        is(x.striker(), 1);
        promise = 25;
        is(x.other(), 0);
        balls("2 2x");
        is(x.striker(), 1);
        balls("3x");
        is(x.striker(), 0);
        balls("b1");
        is(x.striker(), 1);
        is(x.other(), 0);
        // The last ball of the over changes ends by its run, and the over once more.
        balls("l3");
        is(x.striker(), 1);
        x.bowl(1);
        balls("w1");
        is(x.striker(), 0);
        balls("n5");
        is(x.striker(), 1);
        balls("w");
        is(x.striker(), 1);
        balls("4!");
        is(x.striker(), 1);

        promise = 29;
        limited(20, 0, 0);
        over(0, "nB nC nL nS nH wB wC wL nC+");
        is(x.wickets(0), 0);
        is(x.striker(), 0);
        balls("wS wH");
        is(x.wickets(0), 2);
        is(x.state(0, 0), 'S');
        is(x.state(0, 2), 'H');
        is(x.striker(), 3);
        balls("nO wRa");
        is(x.state(0, 3), 'O');
        is(x.state(0, 4), 'R');
        balls("Rz");
        is(x.state(0, 1), 'R');
        is(x.striker(), 5);
        is(x.other(), 6);
        // Who is out is the striker as the ball was bowled, now at the other end.
        balls("1Ra");
        is(x.state(0, 5), 'R');
        is(x.striker(), 6);
        is(x.other(), 7);
        balls("1Rz+");
        is(x.state(0, 7), 'R');
        is(x.striker(), 6);
        is(x.other(), 8);
        balls("O+");
        is(x.striker(), 8);
        is(x.other(), 9);
        is(x.state(0, 9), 'i');
        is(x.state(0, 10), '-');
        thrown(INDEX, () -> x.state(0, 11));
        thrown(INDEX, () -> x.state(0, -1));
        thrown(INDEX, () -> x.state(1, 0));
        promise = 19;
        is(x.wickets(0), 8);
        thrown(INDEX, () -> x.wickets(1));
        promise = 29;
        for (int version = 0; version < 2; version++) {
            limited(20, version, 0);
            over(0, "C+");
            is(x.striker(), version == 0 ? 1 : 2);
            is(x.other(), version == 0 ? 2 : 1);
            ball("C+?");
            is(x.striker(), version == 0 ? 1 : 2);
            ball("0?");
            is(x.state(0, version == 0 ? 1 : 2), 'L');
            ball("L");
            is(x.state(0, 3), 'L');
            ball("L?");
            is(x.wickets(0), 3);
        }

        promise = 26;
        limited(20, 0, 0);
        over(0, "4! n6! w4! b2 nb4! nl1 2x 0? p");
        is(x.batted(0, 0), 10);
        is(x.batted(0, 1), 1);
        thrown(INDEX, () -> x.batted(0, 11));
        thrown(INDEX, () -> x.batted(0, -1));
        thrown(INDEX, () -> x.batted(1, 0));
        promise = 27;
        is(x.faced(0, 0), 5);
        is(x.faced(0, 1), 2);
        is(x.faced(0, 2), 1);
        thrown(INDEX, () -> x.faced(0, 11));
        thrown(INDEX, () -> x.faced(-1, 0));
        promise = 28;
        is(x.boundaries(0, 0), 2);
        is(x.boundaries(0, 1), 0);
        thrown(INDEX, () -> x.boundaries(0, 11));
        thrown(INDEX, () -> x.boundaries(1, 0));

        promise = 30;
        limited(20, 0, 0);
        over(0, "n4! w2 nb3 l1 p 0?");
        is(x.bowled(0, 0, 'b'), 3);
        is(x.bowled(0, 0, 'r'), 5 + 3 + 1);
        is(x.bowled(0, 0, 'w'), 1);
        balls("wS O Rz B");
        is(x.bowled(0, 0, 'r'), 10);
        is(x.bowled(0, 0, 'w'), 3);
        is(x.bowled(0, 0, 'm'), 0);
        over(1, "b1 l4! p q C Ra");
        is(x.bowled(0, 1, 'r'), 0);
        is(x.bowled(0, 1, 'm'), 1);
        x.miscount(5);
        over(2, "0 0 0 0");
        is(x.bowled(0, 2, 'm'), 0);
        balls("0");
        is(x.bowled(0, 2, 'm'), 1);
        over(1, "0 0 0");
        x.hurt(1);
        over(3, "0 0 0");
        is(x.bowled(0, 3, 'm'), 0);
        is(x.bowled(0, 1, 'm'), 1);
        is(x.bowled(0, 3, 'b'), 3);
        is(x.bowled(0, 4, 'b'), 0);
        over(4, "n 0 0 0 0 0 0");
        is(x.bowled(0, 4, 'm'), 0);
        // An over behind a split one can be a maiden again.
        over(5, "0 0 0 0 0 0");
        is(x.bowled(0, 5, 'm'), 1);
        thrown(ARGUMENT, () -> x.bowled(0, 0, 'x'));
        thrown(INDEX, () -> x.bowled(0, 11, 'x'));
        thrown(INDEX, () -> x.bowled(0, -1, 'b'));
        thrown(INDEX, () -> x.bowled(1, 0, 'x'));

        promise = 31;
        full(9, 0, 0);
        thrown(NONE, () -> x.fall(0, 1));
        over(0, "4! 3Rap 0 B 2 2");
        is(x.fall(0, 1), 12);
        is(x.fall(0, 2), 12);
        thrown(NONE, () -> x.fall(0, 0));
        thrown(NONE, () -> x.fall(0, -1));
        thrown(NONE, () -> x.fall(0, 3));
        thrown(INDEX, () -> x.fall(1, 0));
        promise = 32;
        is(x.partnership(0), 12);
        over(1, "6! 6! B");
        is(x.partnership(0), 16);
        thrown(INDEX, () -> x.partnership(1));
        full(9, 0, 0);
        is(x.partnership(0), 0);
        over(0, "6! B");
        x.retire(true);
        balls("4! 4!");
        is(x.partnership(0), 8);
    }

    private static void reviewing() {
        promise = 7;
        x = new Stumpward();
        thrown(UNSUPPORTED, () -> x.review());
        limited(20, 0, 0);
        thrown(UNSUPPORTED, () -> x.review());
        for (String text : "1 B nC wC nL Ra p".split(" ")) {
            x.miscount(7);
            over(0, text);
            thrown(UNSUPPORTED, () -> x.review());
        }
        limited(20, 0, 0);
        over(0, "C+");
        x.hurt(9);
        thrown(UNSUPPORTED, () -> x.review());
        ball("4!");
        ball("0?p");
        is(x.wickets(0), 2);
        x.clear();
        type("0p");
        x.note();
        is(x.review(), true);
        is(x.wickets(0), 1);
        is(x.runs(0), 9);
        is(x.faced(0, 1), 2);
        is(x.told(), 3);
        thrown(UNSUPPORTED, () -> x.review());
        promise = 36;
        is(x.reviews(0), 2);
        is(x.reviews(1), 2);
        ball("C+?q");
        promise = 7;
        is(x.review(), true);
        is(x.wickets(0), 2);
        is(x.bonus(1), 5);
        is(x.state(0, 1), 'C');
        is(x.striker(), 2);
        is(x.other(), 3);
        ball("L");
        is(x.review(), false);
        promise = 36;
        is(x.reviews(0), 1);
        // The last ball of an over, whose ends have changed, is put right.
        ball("L?");
        promise = 7;
        is(x.review(), true);
        is(x.wickets(0), 4);
        type("0");
        thrown(UNSUPPORTED, () -> x.ball());
        over(1, "0?");
        is(x.review(), true);
        ball("C");
        is(x.review(), false);
        is(x.reviews(0), 0);
        ball("0?");
        thrown(UNSUPPORTED, () -> x.review());
        ball("C?");
        is(x.review(), true);
        is(x.reviews(1), 2);
        promise = 36;
        thrown(ARGUMENT, () -> x.reviews(-1));
        thrown(ARGUMENT, () -> x.reviews(2));
        x = new Stumpward();
        thrown(STATE, () -> x.reviews(0));
        thrown(ARGUMENT, () -> x.reviews(2));

        promise = 7;
        // A review takes an innings back that a ball had ended.
        full(1, 0, 0);
        x.bowl(0);
        balls("B B B B B B");
        x.bowl(1);
        balls("B B B 0?");
        is(x.innings(), 2);
        is(x.review(), true);
        is(x.innings(), 1);
        is(x.wickets(0), 9);
        ball("C");
        is(x.innings(), 2);
        is(x.review(), false);
        is(x.reviews(0), 2);
        // No review once the match has a result.
        limited(1, 0, 0);
        over(0, "1 0 0 0 0 0");
        over(0, "1 0 0 0 0 C");
        is(x.result(), 't');
        thrown(UNSUPPORTED, () -> x.review());
        limited(1, 0, 0);
        over(0, "1 0 0 0 0 0");
        over(0, "1 0 0 0");
        ball("L?");
        is(x.review(), true);
        thrown(UNSUPPORTED, () -> x.review());
        ball("L");
        is(x.result(), 't');
    }

    private static void batters() {
        promise = 8;
        x = new Stumpward();
        thrown(ARGUMENT, () -> x.send(-1));
        thrown(ARGUMENT, () -> x.send(11));
        thrown(STATE, () -> x.send(5));
        full(9, 0, 0);
        thrown(UNSUPPORTED, () -> x.send(0));
        is(x.send(5), 2);
        is(x.send(7), 5);
        is(x.send(7), 7);
        over(0, "B");
        is(x.striker(), 7);
        thrown(UNSUPPORTED, () -> x.send(7));
        thrown(UNSUPPORTED, () -> x.send(0));
        is(x.send(3), 2);
        is(x.retire(false), 3);
        thrown(UNSUPPORTED, () -> x.send(1));

        promise = 9;
        x = new Stumpward();
        thrown(STATE, () -> x.retire(true));
        full(9, 0, 0);
        is(x.retire(true), 2);
        is(x.state(0, 0), 'r');
        is(x.striker(), 2);
        is(x.retire(false), 3);
        is(x.other(), 3);
        is(x.retire(true), 4);
        for (int i = 5; i <= 10; i++) {
            is(x.retire(true), i);
        }
        is(x.retire(true), 0);
        is(x.state(0, 0), 'i');
        is(x.state(0, 10), 'r');
        // Who retires does not come back by that: 1 was the lowest, now it comes.
        is(x.retire(true), 1);
        is(x.wickets(0), 0);
        x.bowl(0);
        balls("B B B B B B");
        over(1, "B B B");
        is(x.wickets(0), 9);
        thrown(UNSUPPORTED, () -> x.retire(true));
        thrown(UNSUPPORTED, () -> x.retire(false));
        ball("B");
        is(x.innings(), 2);
    }

    private static void endings() {
        promise = 12;
        x = new Stumpward();
        thrown(STATE, () -> x.declare());
        limited(2, 0, 0);
        thrown(UNSUPPORTED, () -> x.declare());
        full(2, 0, 1);
        over(0, "6!");
        is(x.declare(), 6);
        is(x.innings(), 2);
        is(x.team(1), 0);
        is(x.declare(), 0);

        promise = 13;
        is(x.enforce(), 6);
        is(x.team(2), 0);
        thrown(UNSUPPORTED, () -> x.enforce());
        x = new Stumpward();
        thrown(UNSUPPORTED, () -> x.enforce());
        limited(1, 1, 0);
        over(0, "6! 0 0 0 0 0");
        thrown(UNSUPPORTED, () -> x.enforce());
        full(6, 0, 0);
        thrown(UNSUPPORTED, () -> x.enforce());
        over(0, "6! q");
        x.declare();
        thrown(UNSUPPORTED, () -> x.enforce());
        over(0, "1 q");
        x.declare();
        // Five less, bonus aside, are not six.
        thrown(UNSUPPORTED, () -> x.enforce());
        is(x.team(2), 0);
        full(6, 0, 0);
        over(0, "6!");
        x.declare();
        x.declare();
        x.hurt(0);
        thrown(UNSUPPORTED, () -> x.enforce());
        full(6, 0, 0);
        over(0, "6!");
        x.declare();
        x.bowl(0);
        balls("B B B B B B");
        over(1, "B B B C");
        is(x.review(), false);
        is(x.enforce(), 6);
        is(x.team(2), 1);

        // Acts of the third innings of an earlier match do not count, and what is less is told.
        x.hurt(0);
        x.time();
        x.start('f', 5, 0, 0);
        over(0, "6! 1");
        x.declare();
        over(0, "2");
        x.declare();
        is(x.enforce(), 5);

        promise = 14;
        x = new Stumpward();
        thrown(ARGUMENT, () -> x.rain(0));
        thrown(ARGUMENT, () -> x.rain(51));
        thrown(STATE, () -> x.rain(50));
        full(6, 0, 0);
        thrown(UNSUPPORTED, () -> x.rain(1));
        limited(10, 0, 0);
        thrown(UNSUPPORTED, () -> x.rain(11));
        over(0, "n");
        thrown(UNSUPPORTED, () -> x.rain(10));
        is(x.rain(2), 8);
        is(x.resources(0), 720 - 12 * 12);
        balls("B B 0 0 0 0");
        is(x.rain(3), 5);
        promise = 34;
        is(x.resources(0), 720 - 144 - 18 * 10);
        promise = 14;
        thrown(UNSUPPORTED, () -> x.rain(5));
        is(x.rain(4), 1);
        is(x.innings(), 2);
        promise = 34;
        is(x.resources(0), 720 - 144 - 180 - 240);
        is(x.resources(1), 72);
        thrown(INDEX, () -> x.resources(2));
        thrown(INDEX, () -> x.resources(-1));
        full(1, 0, 0);
        thrown(INDEX, () -> x.resources(1));
        thrown(UNSUPPORTED, () -> x.resources(0));
        promise = 14;
        // Rain of all overs ends both innings; nothing is 1 run less than the target.
        limited(3, 0, 1);
        is(x.rain(3), 0);
        is(x.innings(), 2);
        is(x.result(), 't');
        limited(3, 1, 1);
        is(x.rain(3), 0);
        is(x.innings(), 3);
        is(x.team(2), 0);
        is(x.isOn(), true);
        thrown(UNSUPPORTED, () -> x.rain(1));
        promise = 34;
        thrown(UNSUPPORTED, () -> x.resources(2));
        thrown(INDEX, () -> x.resources(3));

        promise = 15;
        x = new Stumpward();
        thrown(STATE, () -> x.time());
        limited(3, 1, 1);
        thrown(STATE, () -> x.time());
        full(3, 1, 1);
        is(x.time(), true);
        is(x.result(), 'd');
        is(x.isOn(), false);
        thrown(STATE, () -> x.time());
    }

    private static void scores() {
        promise = 16;
        x = new Stumpward();
        is(x.innings(), 0);
        full(50, 0, 1);
        is(x.innings(), 1);
        x.declare();
        x.declare();
        is(x.innings(), 3);
        promise = 17;
        is(x.team(0), 1);
        is(x.team(1), 0);
        is(x.team(2), 1);
        thrown(INDEX, () -> x.team(3));
        thrown(INDEX, () -> x.team(-1));
        x.declare();
        is(x.team(3), 0);
        promise = 23;
        is(x.isOn(), true);
        x.declare();
        is(x.isOn(), false);
        is(x.innings(), 4);
        is(x.result(), 't');

        promise = 33;
        x = new Stumpward();
        thrown(STATE, () -> x.target());
        limited(10, 0, 0);
        thrown(NONE, () -> x.target());
        x.bowl(0);
        balls("6! 6! B p q");
        balls("q");
        x.rain(9);
        is(x.innings(), 2);
        // 17 runs; resources 720 - 54 * 11 = 126 of the first one, 72 of the second one.
        is(x.resources(0), 126);
        is(x.result(), '1');
        is(x.bonus(1), 10);
        limited(2, 0, 0);
        over(0, "6! 6! B B 6! 6!");
        over(1, "0 0 0 0 0 0");
        is(x.target(), 25);
        over(0, "1 q");
        is(x.target(), 30);
        x.rain(1);
        // 29 runs by 72 of 144.
        is(x.target(), 15);
        balls("6! 6!");
        is(x.runs(1), 13);
        balls("1");
        is(x.isOn(), true);
        balls("w");
        is(x.result(), '1');
        thrown(STATE, () -> x.target());
        promise = 35;
        // A bonus reaches a target as the innings begins.
        limited(1, 0, 1);
        over(0, "1 1 q 0 0 0");
        is(x.innings(), 2);
        is(x.result(), '0');
        // Rain moves a target below the runs.
        limited(3, 0, 1);
        over(0, "6! 6! 0 0 0 0");
        over(1, "0 0 0 0 0 0");
        over(2, "0 0 0 0 0 0");
        is(x.target(), 13);
        over(0, "6! 0 0 0 0 0");
        is(x.result(), '-');
        x.rain(1);
        is(x.target(), 9);
        x.rain(1);
        is(x.result(), '0');
        limited(1, 0, 0);
        over(0, "3 0 0 0 0 0");
        over(0, "1 0 0 0 0 0");
        is(x.result(), '0');
        limited(1, 0, 0);
        over(0, "3 0 0 0 0 0");
        over(0, "1 2 0 0 0 0");
        is(x.result(), 't');
        is(x.innings(), 2);
        // The bonus of the team that bats counts to the target.
        limited(1, 0, 0);
        over(0, "6! 2 q 0 0 0");
        is(x.target(), 9);
        over(0, "3");
        is(x.isOn(), true);
        over(0, "1");
        is(x.result(), '1');
        extraOvers();
        fullMatches();
    }

    private static void extraOvers() {
        promise = 35;
        limited(1, 1, 0);
        over(0, "3 0 0 0 q p");
        // 8 and 5 of bonus.
        over(0, "1 2 0 0 0 0");
        is(x.runs(1), 3);
        is(x.innings(), 3);
        is(x.result(), '-');
        is(x.team(2), 1);
        promise = 33;
        thrown(NONE, () -> x.target());
        promise = 35;
        over(0, "4! B q 2 0 0");
        is(x.innings(), 4);
        is(x.team(3), 0);
        promise = 33;
        is(x.target(), 7);
        promise = 35;
        over(0, "4! 2 0");
        is(x.result(), '-');
        ball("1");
        is(x.result(), '0');
        limited(1, 1, 1);
        over(0, "0 0 0 0 0 0");
        over(0, "0 0 0 0 0 0");
        over(0, "2 B B");
        is(x.innings(), 4);
        over(0, "2 B B");
        is(x.result(), 't');
        limited(1, 1, 1);
        over(0, "0 0 0 0 0 0");
        over(0, "0 0 0 0 0 0");
        over(0, "2 0 0 0 0 0");
        over(0, "1 0 0 0 0 q");
        is(x.result(), '0');
        is(x.bonus(0), 5);
    }

    private static void fullMatches() {
        promise = 35;
        full(1, 0, 0);
        over(0, "4! q");
        x.declare();
        over(0, "4! 4! 4! q");
        x.declare();
        over(0, "2");
        is(x.innings(), 3);
        // 4 + 2 + 5 of bonus are less than 12 + 5 of bonus.
        x.declare();
        is(x.result(), '1');
        is(x.innings(), 3);
        full(1, 0, 0);
        over(0, "4! q");
        x.declare();
        over(0, "4! 4! 4! q");
        x.declare();
        over(0, "6! 2");
        x.declare();
        is(x.innings(), 4);
        promise = 33;
        // 12 + 5 against 12 + 5.
        is(x.target(), 1);
        over(0, "q");
        is(x.target(), 6);
        promise = 35;
        balls("4!");
        is(x.result(), '-');
        balls("2");
        is(x.result(), '1');
        full(1, 0, 0);
        over(0, "4!");
        x.declare();
        x.declare();
        x.enforce();
        over(0, "2");
        x.declare();
        is(x.result(), '0');
        is(x.innings(), 3);
        full(1, 0, 0);
        over(0, "4!");
        x.declare();
        x.declare();
        x.enforce();
        over(0, "6!");
        x.declare();
        promise = 33;
        is(x.target(), 3);
        promise = 35;
        over(0, "2");
        x.declare();
        is(x.result(), 't');
        full(1, 0, 0);
        over(0, "4!");
        x.declare();
        x.declare();
        x.enforce();
        over(0, "6!");
        x.declare();
        over(0, "1");
        is(x.declare(), 1);
        is(x.result(), '1');
        full(1, 0, 0);
        allOut();
        is(x.innings(), 2);
        allOut();
        allOut();
        allOut();
        is(x.result(), 't');
        is(x.innings(), 4);
        is(x.wickets(3), 10);
        is(x.state(3, 10), 'B');
        is(x.state(3, 7), 'i');
    }

    private static void scorers() {
        promise = 37;
        limited(2, 0, 0);
        is(x.told(), 0);
        over(0, "1 C?");
        x.review();
        is(x.told(), 2);

        promise = 38;
        is(x.signAt(0, 0), '1');
        is(x.signAt(1, 0), 'C');
        is(x.signAt(1, 1), '?');
        thrown(NONE, () -> x.signAt(1, 2));
        thrown(NONE, () -> x.signAt(1, -1));
        thrown(INDEX, () -> x.signAt(2, 0));
        thrown(INDEX, () -> x.signAt(-1, 9));

        promise = 39;
        x = new Stumpward();
        thrown(ARGUMENT, () -> x.note());
        type("1");
        thrown(UNSUPPORTED, () -> x.note());
        is(x.clear(), 1);
        limited(2, 0, 0);
        over(0, "1");
        type("4!");
        is(x.note(), true);
        is(x.clear(), 0);
        promise = 40;
        is(x.firstDiffering(), 0);
        promise = 39;
        type("4!");
        is(x.note(), true);
        type("1");
        is(x.note(), false);
        promise = 40;
        thrown(NONE, () -> x.firstDiffering());
        balls("2 3");
        type("3x");
        x.note();
        is(x.firstDiffering(), 2);
        promise = 41;
        is(x.runs(0), 6);
        is(x.runsBySecond(0), 5);
        thrown(INDEX, () -> x.runsBySecond(1));
        thrown(INDEX, () -> x.runsBySecond(-1));
        limited(1, 0, 0);
        over(0, "1 1 1 1 1");
        // The over goes on by the second scorer, so that the innings 1 does not begin.
        ball("1");
        type("n1");
        x.note();
        is(x.innings(), 2);
        is(x.runsBySecond(0), 7);
        thrown(INDEX, () -> x.runsBySecond(1));
        // The bowler told for the innings 1 cannot bowl within the over of the second scorer.
        over(3, "4!");
        is(x.runsBySecond(0), 11);
        is(x.bowled(1, 3, 'b'), 1);
        // A review is done by the text that its ball has there.
        limited(2, 0, 0);
        over(0, "0?");
        type("L?");
        x.note();
        is(x.review(), true);
        balls("1 1 1 1 1");
        over(1, "1 1 1 1 1 1");
        is(x.runsBySecond(0), 11);
        is(x.innings(), 2);
        // Ten are out by the second scorer only if L? is put right there.
        full(1, 0, 0);
        x.bowl(0);
        balls("B B B B B B");
        over(1, "B B B 0?");
        x.review();
        type("L?");
        x.note();
        is(x.innings(), 1);
        is(x.runsBySecond(1), 0);
        // A review is left out with its ball.
        limited(2, 1, 0);
        over(0, "0 0 0 0 0");
        ball("0");
        over(1, "1 1 1 1 1 1");
        is(x.innings(), 2);
        is(x.runsBySecond(0), 6);

        promise = 42;
        limited(1, 0, 0);
        over(0, "n n 1 0 0 0 0 0");
        is(x.runsBy(0, 0), 3);
        is(x.runsBy(0, 1), 5);
        is(x.runsBy(1, 1), 0);
        thrown(ARGUMENT, () -> x.runsBy(9, 2));
        thrown(ARGUMENT, () -> x.runsBy(0, -1));
        thrown(INDEX, () -> x.runsBy(2, 1));
        thrown(INDEX, () -> x.runsBy(-1, 0));
        over(0, "3 0 0 0 0 0");
        is(x.result(), 't');
        thrown(INDEX, () -> x.runsBy(2, 0));
        // In version 1 the first one has 5, so that 3 do not tie.
        thrown(INDEX, () -> x.runsBy(2, 1));
        limited(1, 0, 0);
        over(0, "0 0 0 0 0 0");
        over(0, "0 0 0 0 0 0");
        is(x.result(), 't');
        thrown(INDEX, () -> x.runs(2));
        is(x.runsBy(2, 1), 0);
        thrown(INDEX, () -> x.runsBy(2, 0));
        is(x.runs(0), 0);
        x = new Stumpward();
        thrown(INDEX, () -> x.runsBy(0, 0));
        thrown(INDEX, () -> x.runsBySecond(0));
        // The team that was made to bat on loses in one innings, also if it is all done again.
        full(5, 0, 0);
        over(0, "6! 4!");
        x.declare();
        x.declare();
        x.enforce();
        over(0, "6!");
        x.declare();
        is(x.result(), '0');
        is(x.runsBy(2, 1), 6);
        thrown(INDEX, () -> x.runsBy(3, 1));
        thrown(INDEX, () -> x.runsBySecond(3));
        is(x.isSound(), true);
        // Nothing of a match before is done again.
        full(5, 0, 0);
        x.time();
        x.start('f', 5, 0, 1);
        is(x.runsBy(0, 0), 0);
        over(3, "2 3");
        is(x.runsBy(0, 0), 5);
        is(x.runsBySecond(0), 5);

        promise = 43;
        x = new Stumpward();
        is(x.wrongBoxes(3, 4, 7, 5, 2), 0);
        is(x.wrongBoxes(3, 4, 7, 5, 3), 1);
        is(x.wrongBoxes(3, 5, 7, 5, 2), 1);
        is(x.wrongBoxes(3, 4, 8, 5, 2), 1);
        is(x.wrongBoxes(3, 4, 8, 5, 4), 2);
        int most = Integer.MAX_VALUE;
        is(x.wrongBoxes(most, most, -2, most, most), 1);
        is(x.wrongBoxes(most, 1, Integer.MIN_VALUE, 0, 0), 2);
        is(x.wrongBoxes(most, 1, Integer.MIN_VALUE, Integer.MIN_VALUE, 0), 1);
    }

    private static void league() {
        promise = 44;
        limited(1, 0, 0);
        over(0, "6! 0 0 0 0 0");
        over(0, "4! 4!");
        is(x.resultOf(0), '1');
        thrown(INDEX, () -> x.resultOf(1));
        thrown(INDEX, () -> x.resultOf(-1));
        promise = 46;
        is(x.points(1), 2);
        is(x.points(0), 0);
        thrown(ARGUMENT, () -> x.points(2));
        thrown(ARGUMENT, () -> x.points(-1));
        promise = 47;
        is(x.netRate(0), 6000 * 6 / 6 - 6000 * 8 / 2);
        is(x.netRate(1), 6000 * 8 / 2 - 6000 * 6 / 6);
        thrown(ARGUMENT, () -> x.netRate(2));
        thrown(ARGUMENT, () -> x.netRate(-1));
        x.start('f', 9, 0, 1);
        promise = 44;
        thrown(INDEX, () -> x.resultOf(1));
        x.time();
        is(x.resultOf(1), 'd');
        promise = 46;
        is(x.points(1), 3);
        is(x.points(0), 1);
        promise = 45;
        is(x.amend(1, '0'), 'd');
        is(x.resultOf(1), '0');
        is(x.result(), '0');
        is(x.points(0), 2);
        is(x.amend(0, 't'), '1');
        is(x.points(0), 3);
        is(x.points(1), 1);
        thrown(INDEX, () -> x.amend(2, 't'));
        thrown(INDEX, () -> x.amend(-1, 'x'));
        thrown(ARGUMENT, () -> x.amend(0, 'x'));
        thrown(ARGUMENT, () -> x.amend(0, '-'));
        promise = 47;
        is(x.netRate(0), 6000 * 6 / 6 - 6000 * 8 / 2);
        // Ten out in the second of three overs stand for all three, also with rain of one.
        limited(20, 0, 1);
        x.rain(18);
        over(0, "1 B B B B B");
        over(1, "B B B B B");
        is(x.innings(), 2);
        over(0, "w 1");
        is(x.result(), '0');
        is(x.netRate(1), 6000 * 1 / 12 - 6000 * 2 / 1);
        // Overs that were miscounted count by their balls; both matches together, rounded down.
        limited(1, 0, 0);
        x.miscount(7);
        over(0, "1 0 0 0 0 0 0");
        over(0, "2");
        is(x.netRate(0), 857 - 12000);
        is(x.netRate(1), 12000 - 857);
        x.start('l', 1, 0, 1);
        x.miscount(5);
        over(0, "4! 0 0 0 0");
        over(0, "0 0 0 0 0 0");
        is(x.netRate(0), 6000 * 1 / 13 - 6000 * 6 / 6);
    }

    private static void figures() {
        promise = 48;
        full(9, 0, 0);
        over(0, "4! B");
        is(x.checksum(), 1004L);
        x.declare();
        is(x.checksum(), 31L * 1004);
        over(0, "1");
        is(x.checksum(), 31L * 1004 + 1);

        promise = 49;
        thrown(INDEX, () -> x.extraShare(2));
        thrown(INDEX, () -> x.extraShare(-1));
        is(x.extraShare(0), 0f);
        ball("p");
        ball("nb1");
        is(x.extraShare(1), 7f / 8f);
        x.declare();
        thrown(ARITHMETIC, () -> x.extraShare(2));

        promise = 50;
        is(x.meanRuns(0), 4.0);
        thrown(ARITHMETIC, () -> x.meanRuns(1));
        thrown(INDEX, () -> x.meanRuns(3));
        over(0, "2 2 1 B B B");
        is(x.meanRuns(2), 5.0 / 3.0);

        promise = 51;
        is(x.isSound(), true);
        is(new Stumpward().isSound(), true);
        full(9, 1, 1);
        is(x.isSound(), true);
        over(0, "n4! w2 b2 l1 C+?q");
        x.review();
        balls("1Rz+ 0?p O+");
        is(x.isSound(), true);
        x.time();
        is(x.isSound(), true);
    }

    public static void main(String[] args) {
        theMatch();
        scores();
        scorers();
        league();
        figures();
        System.out.println(passed + " passed, " + failed + " failed");
        if (failed != 0) {
            System.exit(1);
        }
    }
}
