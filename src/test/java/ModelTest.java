/** Runs of 500 calls, the same in every run of this test, on an object and on the model. */
public final class ModelTest {
    private static final Checks CHECKS = new Checks("ModelTest");
    private static final int RUNS = 400;
    private static final int SETTINGS = 35;
    private static final int CALLS = 500;
    private static final int[] EDGES = {Integer.MIN_VALUE, -1, 0, 1, Integer.MAX_VALUE};

    private final HoseTests object = new HoseTests();
    private final Model model = new Model();
    private final int run;
    private long state;
    private int things = 0;
    private int today = 0;

    private ModelTest(int run) {
        this.run = run;
        this.state = run * 7_919L + 17;
    }

    public static void main(String[] args) {
        for (int run = 0; run < RUNS; run++) {
            ModelTest test = new ModelTest(run);
            test.set();
            for (int call = SETTINGS; call < CALLS; call++) {
                test.call();
            }
        }
        CHECKS.end();
    }

    private int below(int bound) {
        state = state * 6_364_136_223_846_793_005L + 1_442_695_040_888_963_407L;
        return (int) ((state >>> 33) % bound);
    }

    /** Most numbers are in 0 .. most; some are at its edges or far out. */
    private int upTo(int most) {
        int pick = below(60);
        if (pick < EDGES.length) {
            return EDGES[pick];
        }
        return pick < 8 ? most + pick - 6 : below(most + 1);
    }

    private int someThing() {
        return upTo(Math.max(things - 1, 0));
    }

    private void set() {
        int horizon = run % 3 == 0 ? 5_000 : 40;
        for (int kind = 0; kind < 5; kind++) {
            int of = kind;
            int age = below(3) == 0 ? 0 : below(4 * horizon);
            both("age", () -> { object.age(of, age); return 0; }, () -> { model.age(of, age); return 0; });
            for (int test = 0; test < 3; test++) {
                setTest(kind, test, below(2) * below(horizon), below(2) * below(6));
                int pass = below(60);
                setBounds(kind, test, below(pass + 1), pass);
            }
        }
    }

    private void setTest(int kind, int test, int days, int uses) {
        both("test", () -> { object.test(kind, test, days, uses); return 0; },
            () -> { model.test(kind, test, days, uses); return 0; });
    }

    private void setBounds(int kind, int test, int low, int pass) {
        both("bounds", () -> { object.bounds(kind, test, low, pass); return 0; },
            () -> { model.bounds(kind, test, low, pass); return 0; });
    }

    private void call() {
        int pick = below(100);
        if (pick < 12) {
            callSetting();
        } else if (pick < 24 && things < 40 || pick < 14) {
            callThing();
        } else if (pick < 64) {
            callOnThing();
        } else {
            callAnswer();
        }
    }

    private void callSetting() {
        int kind = upTo(4);
        int test = upTo(2);
        switch (below(8)) {
            case 0:
                int age = upTo(below(4) == 0 ? 20_000 : 60);
                both("age", () -> { object.age(kind, age); return 0; }, () -> { model.age(kind, age); return 0; });
                break;
            case 1:
                setTest(kind, test, upTo(below(4) == 0 ? 5_000 : 40), upTo(below(4) == 0 ? 1_000 : 5));
                break;
            case 2:
                setBounds(kind, test, upTo(40), upTo(below(4) == 0 ? 10_000 : 60));
                break;
            default:
                int d = below(20) == 0 ? upTo(99_999) : today + below(4);
                int next = below(3) == 0 || d < today + 10 ? d : today + below(10);
                both("day", () -> { object.day(next); return 0; }, () -> { model.day(next); return 0; });
                today = next >= today && next <= 99_999 ? next : today;
        }
    }

    private void callThing() {
        int kind = upTo(4);
        int serial = below(3) == 0 ? upTo(20) : upTo(999_999);
        boolean hasLetter = serial >= 0 && serial <= 999_999;
        int letter = hasLetter && below(12) != 0 ? model.letter(serial) : upTo(90);
        int batch = upTo(9);
        int place = below(2) == 0 ? upTo(1) : upTo(19);
        int made = below(2) == 0 ? today : today - below(Math.min(today, 30) + 1) + (below(20) == 0 ? 1 : 0);
        int added = both("thing", () -> object.thing(kind, serial, letter, batch, place, made),
            () -> model.thing(kind, serial, letter, batch, place, made));
        things = Math.max(things, added + 1);
    }

    private void callOnThing() {
        int thing = someThing();
        int test = upTo(2);
        boolean flag = below(2) == 0;
        int place = below(2) == 0 ? upTo(1) : upTo(19);
        int batch = upTo(9);
        int value = below(8) == 0 ? upTo(10_000) : 20 + below(80);
        switch (below(8)) {
            case 0:
            case 1:
            case 2:
                both("use", () -> { object.use(thing); return 0; }, () -> { model.use(thing); return 0; });
                break;
            case 3:
                both("wash", () -> object.wash(thing, flag), () -> model.wash(thing, flag));
                break;
            case 4:
            case 5:
                both("result", () -> object.result(thing, test, value), () -> model.result(thing, test, value));
                break;
            case 6:
                both("load", () -> { object.load(thing, place); return 0; },
                    () -> { model.load(thing, place); return 0; });
                break;
            default:
                boolean on = flag && below(2) == 0;
                both("recall", () -> object.recall(batch, on), () -> model.recall(batch, on));
        }
    }

    private void callAnswer() {
        int thing = someThing();
        int i = upTo(4);
        switch (below(10)) {
            case 0:
                int batch = upTo(9);
                both("recalled", () -> object.recalled(batch, i), () -> model.recalled(batch, i));
                break;
            case 1:
                both("barred", () -> object.barred(thing), () -> model.barred(thing));
                break;
            case 2:
                both("ends", () -> object.ends(thing), () -> model.ends(thing));
                break;
            case 3:
                int place = below(2) == 0 ? upTo(1) : upTo(19);
                int days = below(2) == 0 ? upTo(20) : upTo(30_000);
                both("soon", () -> object.soon(place, days, i), () -> model.soon(place, days, i));
                break;
            case 4:
                int kind = upTo(4);
                int upperOrLower = upTo(1);
                both("life", () -> object.life(kind, upperOrLower), () -> model.life(kind, upperOrLower));
                break;
            case 5:
                callPlan();
                break;
            case 6:
                int test = upTo(5);
                both("week", () -> object.week(test), () -> model.week(test));
                break;
            case 7:
                int serial = upTo(999_999);
                both("letter", () -> object.letter(serial), () -> model.letter(serial));
                break;
            default:
                int what = upTo(10);
                both("thingAt", () -> object.thingAt(thing, what), () -> model.thingAt(thing, what));
        }
    }

    private void callPlan() {
        long mask = below(2) == 0 ? -1L : 0x0707_0707_0707_0707L;
        long loads = ((long) below(Integer.MAX_VALUE) << 33 ^ (long) below(Integer.MAX_VALUE) << 10 ^ below(1024)) & mask;
        int last = below(2) == 0 ? -1 : below(Integer.MAX_VALUE);
        int n = upTo(6);
        int weeks = upTo(4);
        both("plan", () -> object.plan(loads, last, n, weeks), () -> model.plan(loads, last, n, weeks));
    }

    private interface Call {
        int answer();
    }

    /** The object's answer, or -1 when the call was refused. */
    private int both(String what, Call ofObject, Call ofModel) {
        int[] answers = {-1, -1};
        String refusal = Checks.thrownBy(() -> answers[0] = ofObject.answer());
        String dueRefusal = Checks.thrownBy(() -> answers[1] = ofModel.answer());
        CHECKS.same("run " + run + ": " + what, refusal + " " + answers[0], dueRefusal + " " + answers[1]);
        return answers[0];
    }
}
