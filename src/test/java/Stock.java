/** An object in which every kind of state stands, and a telling of all that can be seen of an object. */
final class Stock {
    static final int TODAY = 50;
    static final int FIT = 0;
    static final int WET = 1;
    static final int MENDED = 2;
    static final int SCRAPPED = 3;
    static final int IN_RECALLED_BATCH = 4;
    static final int COUNT = 5;
    static final int RECALLED_BATCH = 7;

    private Stock() {
    }

    static HoseTests make() {
        HoseTests x = new HoseTests();
        x.age(0, 400);
        x.test(0, 0, 100, 5);
        x.test(0, 1, 90, 0);
        x.test(0, 2, 0, 4);
        for (int test = 0; test < 3; test++) {
            x.bounds(0, test, 40, 70);
        }
        x.age(1, 300);
        x.day(40);
        for (int i = 0; i < COUNT; i++) {
            add(x, 0, 100 + i, i == IN_RECALLED_BATCH ? RECALLED_BATCH : 2, 3, 30 + i);
        }
        x.use(FIT);
        x.day(TODAY);
        x.use(FIT);
        x.wash(WET, false);
        x.result(MENDED, 0, 60);
        x.result(SCRAPPED, 1, 39);
        x.recall(RECALLED_BATCH, true);
        x.plan(0x030201L, 0xFFF, 3, 2);
        return x;
    }

    static HoseTests makeFull() {
        HoseTests x = make();
        for (int serial = 200; serial < 240 - COUNT; serial++) {
            add(x, 0, serial, 1, 1, 0);
        }
        return x;
    }

    static int add(HoseTests x, int kind, int serial, int batch, int place, int made) {
        return x.thing(kind, serial, x.letter(serial), batch, place, made);
    }

    /** A thing of a kind with nothing else of note, made on the present day. */
    static int addPlain(HoseTests x, int kind, int serial, int made) {
        return add(x, kind, serial, 0, 0, made);
    }

    /** Uses the object up: it also makes calls that change it, to see its settings and its day. */
    static String tell(HoseTests x) {
        StringBuilder told = new StringBuilder();
        tellThings(x, told);
        tellRows(x, told);
        for (int test = -1; test < 7; test++) {
            int of = test;
            note(told, "week", () -> x.week(of));
        }
        for (int kind = 0; kind < 5; kind++) {
            int of = kind;
            note(told, "life", () -> x.life(of, 0));
        }
        tellSettings(x, told);
        return told.toString();
    }

    private static void tellThings(HoseTests x, StringBuilder told) {
        for (int i = 0; i <= COUNT; i++) {
            int thing = i;
            note(told, "barred", () -> x.barred(thing));
            note(told, "ends", () -> x.ends(thing));
            for (int what = 0; what <= 10; what++) {
                int which = what;
                note(told, "at", () -> x.thingAt(thing, which));
            }
        }
        note(told, "39th", () -> x.barred(39));
        note(told, "40th", () -> x.barred(40));
    }

    private static void tellRows(HoseTests x, StringBuilder told) {
        for (int i = 0; i < COUNT; i++) {
            int at = i;
            note(told, "soon", () -> x.soon(3, 30_000, at));
            note(told, "recalled", () -> x.recalled(2, at));
        }
        for (int batch = 0; batch < 10; batch++) {
            int of = batch;
            note(told, "recall", () -> x.recall(of, true));
            note(told, "no more", () -> x.recall(of, false));
        }
    }

    private static void tellSettings(HoseTests x, StringBuilder told) {
        note(told, "day", () -> { x.day(TODAY - 1); return 0; });
        note(told, "made", () -> addPlain(x, 0, 999_998, TODAY + 1));
        for (int kind = 0; kind < 5; kind++) {
            int of = kind;
            int thing = note(told, "new", () -> addPlain(x, of, 900_000 + of, 0));
            note(told, "ends", () -> x.ends(thing));
            for (int test = 0; test < 3; test++) {
                int with = test;
                note(told, "mild", () -> x.result(thing, with, 69));
            }
            note(told, "low", () -> x.result(thing, 0, 39));
        }
    }

    private interface Call {
        int answer();
    }

    private static int note(StringBuilder told, String what, Call call) {
        int[] answer = new int[1];
        String thrown = Checks.thrownBy(() -> answer[0] = call.answer());
        told.append(what).append('=').append(thrown.equals("nothing") ? "" + answer[0] : thrown).append(' ');
        return answer[0];
    }
}
