/**
 * Every call with every combination of numbers at and beside the edges, the least and the greatest int
 * among them, in states that are empty, ordinary and full; each answer against the model. A refused call
 * leaves the object in use, so that what it had changed would show in the answers behind it.
 */
public final class SweepTest {
    private static final int LEAST = Integer.MIN_VALUE, MOST = Integer.MAX_VALUE;
    private static final int CALLS_MAX = 512;

    // what each state comes from: a text, what is done by hand behind it, and what stays on the tape
    private static final String[][] STATES = {
        {"", "", ""},
        {"par:a;", "", "par"},
        {"shape s 60 0 1;par s 3:a b c;par:d;", "keep", "?"},
        {"set policy 2;set measure 20;shape s 21 0 12 16 4;shape t 1 0 0;par s 5:aa b;par t 2:c;par:mmm mm a;", "set", "set gap 3;"},
        {"set mode 1;shape a 1 0 0;shape b 2 0 1;shape c 3 0 2;shape d 4 0 3;shape e 5 0 4;shape f 9 0 1 1 2 2 3 3 4 4 5 5 6 6 7 7 8;"
            + "par f 2:a b;par:c;par a 5:d;par:e;par:f;par:g;par:h;par:i j;", "keep", ""},
        {"par:" + "i ".repeat(79) + "abcdef;", "", " ".repeat(200)}};
    private static final int[] ANY = {LEAST, LEAST + 1, -5, -4, -3, -2, -1, 0, 1, 2, 3, 5, 6, 7, 8, 9, 10, 13, 14, 15, 16, 20, 79, 80, 81, 99, 100,
        127, 128, 400, 401, 1 << 29, 1 << 30, MOST - 1, MOST};
    private static final int[] SOME = {LEAST, -5, -4, -3, -2, -1, 0, 1, 2, 3, 5, 6, 7, 8, 9, 79, 80, MOST};
    private static final int[] FEW = {LEAST, -5, -4, -1, 0, 1, 2, 3, 7, 8, 79, 80, MOST};

    private static int wrong = 0;
    private static int calls = 0;

    private final String[] state;
    private DropCapitals x;
    private Model m;
    private int spent = CALLS_MAX;

    private SweepTest(String[] state) {
        this.state = state;
    }

    private void feedAll(String bytes) {
        for (char c : bytes.toCharArray()) {
            x.feed(c);
            m.feed(c);
            spent++;
        }
    }

    private void makeAnew() {
        x = new DropCapitals();
        m = new Model();
        spent = 0;
        feedAll(state[0]);
        due("text() of a state", x.text(), m.text());
        if (state[1].equals("keep")) due("keep(1)", x.keep(1), m.keep(1));
        if (state[1].equals("set")) due("set(10, 20)", x.set(10, 20), m.set(10, 20));
        feedAll(state[2]);
        spent += 2;
    }

    private void ready() {
        // a change that is taken is looked at by some calls more
        if (spent >= CALLS_MAX - 10) makeAnew();
        spent++;
    }

    private void due(String call, int got, int want) {
        calls++;
        if (got == want) return;
        wrong++;
        if (wrong < 20) System.out.println(call + " answered " + got + ", the model says " + want + ", in the state of '" + state[0] + "'");
    }

    /** A change: when it is taken, how it shows is looked at, and the next one gets a new object. */
    private void dueChange(String call, int got, int want) {
        due(call, got, want);
        if (want < 0) return;
        for (int w : new int[] {1, 2, 4, 5, 6, 7, 14, 15}) due("rule(" + w + ") behind " + call, x.rule(w), m.rule(w));
        spent = CALLS_MAX;
    }

    private void sweepOne() {
        for (int a : ANY) {
            ready();
            due("rule(" + a + ")", x.rule(a), m.rule(a));
            ready();
            due("best(" + a + ")", x.best(a), m.best(a));
            ready();
            dueChange("feed(" + a + ")", x.feed(a), m.feed(a));
            ready();
            dueChange("end(" + a + ")", x.end(a), m.end(a));
            ready();
            dueChange("join(" + a + ")", x.join(a), m.join(a));
            ready();
            dueChange("keep(" + a + ")", x.keep(a), m.keep(a));
            ready();
            dueChange("back(" + a + ")", x.back(a), m.back(a));
        }
        ready();
        dueChange("fit()", x.fit(), m.fit());
        ready();
        dueChange("text()", x.text(), m.text());
        due("fault()", x.fault(), m.fault);
    }

    private void sweepTwo() {
        for (int a : ANY) {
            for (int b : ANY) {
                String numbers = "(" + a + ", " + b + ")";
                ready();
                due("shape" + numbers, x.shape(a, b), m.shape(a, b));
                ready();
                due("par" + numbers, x.par(a, b), m.par(a, b));
                ready();
                due("reach" + numbers, x.reach(a, b), m.reach(a, b));
                ready();
                due("line" + numbers, x.line(a, b), m.line(a, b));
                ready();
                due("sign" + numbers, x.sign(a, b), m.sign(a, b));
                ready();
                due("tried" + numbers, x.tried(a, b), m.tried(a, b));
                ready();
                dueChange("set" + numbers, x.set(a, b), m.set(a, b));
                ready();
                dueChange("cut" + numbers, x.cut(a, b), m.cut(a, b));
            }
        }
    }

    private void sweepThree() {
        for (int a : SOME) {
            for (int b : SOME) {
                for (int c : SOME) {
                    String numbers = "(" + a + ", " + b + ", " + c + ")";
                    ready();
                    due("step" + numbers, x.step(a, b, c), m.step(a, b, c));
                    ready();
                    due("word" + numbers, x.word(a, b, c), m.word(a, b, c));
                    ready();
                    due("letter" + numbers, x.letter(a, b, c), m.letter(a, b, c));
                    ready();
                    due("drawn" + numbers, x.drawn(a, b, c), m.drawn(a, b, c));
                    ready();
                    dueChange("drop" + numbers, x.drop(a, b, c), m.drop(a, b, c));
                }
            }
        }
    }

    private void sweepFour() {
        for (int a : FEW) {
            for (int b : FEW) {
                for (int c : FEW) {
                    for (int d : FEW) {
                        ready();
                        dueChange("move(" + a + ", " + b + ", " + c + ", " + d + ")", x.move(a, b, c, d), m.move(a, b, c, d));
                    }
                }
            }
        }
    }

    public static void main(String[] args) {
        for (String[] state : STATES) {
            SweepTest sweep = new SweepTest(state);
            sweep.sweepOne();
            sweep.sweepTwo();
            sweep.sweepThree();
            sweep.sweepFour();
        }
        System.out.println(wrong == 0 ? calls + " answers are as the model's" : wrong + " answers are not as the model's");
        if (wrong != 0) System.exit(1);
    }
}
