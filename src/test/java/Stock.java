/** An object in which every kind of state stands, and a telling of all that can be seen of an object. */
final class Stock {
    static final int TODAY = 50;
    static final int FIT = 0;
    static final int WET = 1;
    static final int MENDED = 2;
    static final int SCRAPPED = 3;
    static final int IN_RECALLED_BATCH = 4;
    static final int COUNT = 5;
    static final int RECALLED_BATCH = 7;
    static final int BATCH = 2;
    static final int PLACE = 3;
    /** The serial of the first thing; the others' follow it. */
    static final int SERIAL = 100;

    private static final int ROOM = 40;

    private Stock() {
    }

    static HoseTests make() {
        HoseTests x = new HoseTests();
        x.age(0, 400);
        x.test(0, 0, 100, 5);
        x.test(0, 1, 90, 0);
        x.test(0, 2, 0, 4);
        for (int test = 0; test < 3; test++) {
            x.bounds(0, test, 40, 70);
        }
        x.age(1, 300);
        x.day(40);
        for (int i = 0; i < COUNT; i++) {
            add(x, 0, SERIAL + i, i == IN_RECALLED_BATCH ? RECALLED_BATCH : BATCH, PLACE, 30 + i);
        }
        x.use(FIT);
        x.day(TODAY);
        x.use(FIT);
        x.wash(WET, false);
        x.result(MENDED, 0, 60);
        x.result(SCRAPPED, 1, 39);
        x.recall(RECALLED_BATCH, true);
        x.plan(0x030201L, 0xFFF, 3, 2);
        return x;
    }

    static HoseTests makeOnDay(int d) {
        HoseTests x = make();
        x.day(d);
        return x;
    }

    static HoseTests makeFull() {
        HoseTests x = make();
        for (int thing = COUNT; thing < ROOM; thing++) {
            add(x, 0, 200 + thing, 1, 1, 0);
        }
        return x;
    }

    static int add(HoseTests x, int kind, int serial, int batch, int place, int made) {
        return x.thing(kind, serial, x.letter(serial), batch, place, made);
    }

    /** A thing of a kind with nothing else of note. */
    static int addPlain(HoseTests x, int kind, int serial, int made) {
        return add(x, kind, serial, 0, 0, made);
    }

    /** Uses the object up: it also makes calls that change it, to see its settings and its day. */
    static String tell(HoseTests x) {
        StringBuilder told = new StringBuilder();
        tellThings(x, told);
        tellRows(x, told);
        for (int test = -1; test < 7; test++) {
            int of = test;
            note(told, "week", () -> x.week(of));
        }
        for (int kind = 0; kind < 5; kind++) {
            int of = kind;
            note(told, "upper", () -> x.life(of, 0));
            note(told, "lower", () -> x.life(of, 1));
        }
        note(told, "day", () -> { x.day(TODAY - 1); return 0; });
        note(told, "made", () -> addPlain(x, 0, 999_998, TODAY + 1));
        for (int kind = 0; kind < 5; kind++) {
            tellKind(x, told, kind);
        }
        return told.toString();
    }

    private static void tellThings(HoseTests x, StringBuilder told) {
        for (int i = 0; i <= COUNT; i++) {
            int thing = i;
            note(told, "barred", () -> x.barred(thing));
            note(told, "ends", () -> x.ends(thing));
            for (int what = 0; what <= 10; what++) {
                int which = what;
                note(told, "at", () -> x.thingAt(thing, which));
            }
        }
        note(told, "39th", () -> x.barred(ROOM - 1));
        note(told, "40th", () -> x.barred(ROOM));
    }

    private static void tellRows(HoseTests x, StringBuilder told) {
        for (int i = 0; i < COUNT; i++) {
            int at = i;
            note(told, "soon", () -> x.soon(PLACE, 30_000, at));
            note(told, "recalled", () -> x.recalled(BATCH, at));
        }
        for (int batch = 0; batch < 10; batch++) {
            int of = batch;
            note(told, "recall", () -> x.recall(of, true));
            note(told, "no more", () -> x.recall(of, false));
        }
    }

    /**
     * What is set for a kind, seen by new things of it. The ends are taken away from the soonest on (the tests of
     * 90 and of 100 days, the age), so that none stays hidden behind another.
     */
    private static void tellKind(HoseTests x, StringBuilder told, int kind) {
        int used = note(told, "new", () -> addPlain(x, kind, 900_000 + kind, 0));
        for (int use = 0; use < 4; use++) {
            noteUse(x, told, used);
        }
        note(told, "pass", () -> x.result(used, 2, 70));
        noteUse(x, told, used);
        int unused = note(told, "new", () -> addPlain(x, kind, 800_000 + kind, 0));
        note(told, "end", () -> x.ends(unused));
        note(told, "no test 1", () -> { x.test(kind, 1, 0, 0); return x.ends(unused); });
        note(told, "no test 0", () -> { x.test(kind, 0, 0, 0); return x.ends(unused); });
        note(told, "no age", () -> { x.age(kind, 0); return x.ends(unused); });
        for (int test = 0; test < 3; test++) {
            int of = test;
            note(told, "pass", () -> x.result(unused, of, 70));
            note(told, "mild", () -> x.result(unused, of, 69));
            note(told, "low", () -> x.result(used, of, 40));
        }
        note(told, "below", () -> x.result(used, 0, 39));
        note(told, "least", () -> x.result(unused, 1, 0));
    }

    private static void noteUse(HoseTests x, StringBuilder told, int thing) {
        note(told, "use", () -> { x.use(thing); return x.barred(thing); });
    }

    private interface Call {
        int answer();
    }

    /** The answer, or a thing that is not there when the call was refused. */
    private static int note(StringBuilder told, String what, Call call) {
        int[] answer = {ROOM};
        String thrown = Checks.thrownBy(() -> answer[0] = call.answer());
        told.append(what).append('=').append(thrown.equals("nothing") ? "" + answer[0] : thrown).append(' ');
        return answer[0];
    }
}
