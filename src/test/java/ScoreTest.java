/** Promises 1 to 6: a new object, the text, reading it, loudness and sorts. */
public final class ScoreTest {
    private static final Check CHECK = new Check("ScoreTest");

    public static void main(String[] args) {
        newObject();
        typing();
        clearing();
        readingScores();
        faultsOfTexts();
        whatReadingChanges();
        settingLoudness();
        settingSorts();
        CHECK.end();
    }

    private static void newObject() {
        LongTones x = new LongTones();
        for (int what = 0; what <= 15; what++) {
            CHECK.due("new: count(" + what + ")", x.count(what), what == 12 ? 2 : 0);
        }
        CHECK.due("new: beat", x.beat(0, 0), LongTones.UNKNOWN);
        CHECK.due("new: singer", x.singer(0, 0), LongTones.UNKNOWN);
        CHECK.due("new: solo", x.solo(0, 0), LongTones.UNKNOWN);
        CHECK.due("new: fault", x.fault(0, 0), LongTones.NONE);
        CHECK.due("new: undo", x.undo(), LongTones.NONE);
        CHECK.due("new: restore(0)", x.restore(0), LongTones.NONE);
        CHECK.due("new: restore(1)", x.restore(1), LongTones.NONE);
        CHECK.due("new: make", x.make(), LongTones.NOT_POSSIBLE);
        CHECK.due("new: keep", x.keep(0), 0);
    }

    private static void typing() {
        LongTones x = new LongTones();
        for (int i = 1; i <= 60; i++) {
            CHECK.due("type number " + i, x.type(i % 2 == 0 ? 'o' : (char) 65535), i);
        }
        CHECK.due("type at 60", x.type('o'), LongTones.FULL);
        CHECK.due("length behind FULL", x.count(15), 60);
        CHECK.due("type is no act", x.count(14), 0);
    }

    private static void clearing() {
        LongTones x = new LongTones();
        CHECK.due("clearText empty", x.clearText(), 0);
        Check.typeAll(x, "o-x12");
        CHECK.due("clearText", x.clearText(), 5);
        CHECK.due("clearText again", x.clearText(), 0);
        CHECK.due("length", x.count(15), 0);
        CHECK.due("read cleared", x.read(), -100);
        x.type('o');
        CHECK.due("old signs are gone", x.read(), 1);
        x.clearText();
        CHECK.due("clearText is no act", x.count(14), 1);
    }

    private static void readingScores() {
        LongTones x = Check.withScore("o3-.x2-5x10o");
        CHECK.due("beats", x.count(0), 15);
        int[] sorts = {2, 1, 0, 0, 1, 1, 1, 1, 1, 1, 1, 1, 1, 1, 2};
        int[] loudnesses = {3, 2, 2, 2, 5, 5, 5, 5, 5, 5, 5, 5, 5, 5, 2};
        for (int beat = 0; beat < 15; beat++) {
            CHECK.due("sort of " + beat, x.beat(beat, 0), sorts[beat]);
            CHECK.due("loudness of " + beat, x.beat(beat, 1), loudnesses[beat]);
        }
        CHECK.due("the text stays", x.count(15), 12);
        CHECK.due("read again", x.read(), 15);
        String[] texts = {"-", ".", "o", "o1", "-5", ".x2", "ox96", "-x9", "-x10", "-x19", "-x20",
            "-x89", "-x90", "-x95o", ".x94oo", "o1x2-4x3.", "-2-3x2", "-5x5"};
        int[] beats = {1, 1, 1, 1, 1, 2, 96, 9, 10, 19, 20, 89, 90, 96, 96, 6, 3, 5};
        for (int i = 0; i < texts.length; i++) {
            CHECK.due("read of " + texts[i], Check.readText(x, texts[i]), beats[i]);
            CHECK.due("beats of " + texts[i], x.count(0), beats[i]);
        }
        StringBuilder longest = new StringBuilder();
        for (int i = 0; i < 60; i++) {
            longest.append("-o.".charAt(i % 3));
        }
        CHECK.due("60 items", Check.readText(x, longest.toString()), 60);
    }

    private static void faultsOfTexts() {
        String[] texts = {"", "x", "5", "-6", "-0", "-9", ".1", ".x", "-x", "-x1", "-x1-", "-x1x",
            "-x0", "-x01", "-xx", "-x-", "-x97", "-x98", "-x99", "-x96", "-x961", "-x100", "-x123",
            "-x2x3", "o55", "o5x2 ", "O", "ox", "o1x1o", "-x96-", "-x95oo", "ox50.x46-x2-",
            "ox96o*", "ox96ox1", "ox96ox97", ".x96.x96.x96", "o\u0000", "o-\uff0d", ".x\u00e9",
            "o\uff11", "ox\u0662", "-x96\u0000"};
        int[] faults = {0, 0, 0, 1, 1, 1, 1, 2, 2, 3, 3, 3,
            2, 2, 2, 2, 3, 3, 3, -1, 4, 4, 4,
            3, 2, 4, 0, 2, 4, 4, 5, 8,
            5, 7, 7, 4, 1, 2, 2,
            1, 2, 4};
        for (int i = 0; i < texts.length; i++) {
            LongTones x = Check.withScore("oo");
            int want = faults[i] < 0 ? 96 : -100 - faults[i];
            CHECK.due("fault of \"" + texts[i] + "\"", Check.readText(x, texts[i]), want);
            CHECK.due("beats then", x.count(0), faults[i] < 0 ? 96 : 2);
            CHECK.due("states then", x.count(14), faults[i] < 0 ? 2 : 1);
        }
        StringBuilder full = new StringBuilder();
        for (int i = 0; i < 59; i++) {
            full.append('-');
        }
        CHECK.due("x at the end", Check.readText(new LongTones(), full + "x"), -160);
        CHECK.due("number outside", Check.readText(new LongTones(), full.substring(2) + "x2x"), -159);
    }

    private static void whatReadingChanges() {
        LongTones x = Check.withScore("o-x5");
        x.addSinger(10, 3);
        x.addSinger(11, 4);
        x.setPresent(1, false);
        x.setReserve(5);
        x.addSolo(0, 1, 2);
        x.mark(0, 3, true);
        x.keep(1);
        CHECK.due("read", Check.readText(x, "-x6"), 6);
        CHECK.due("solos are gone", x.count(5), 0);
        CHECK.due("marks are gone", x.count(6), 0);
        CHECK.due("singers stay", x.count(3), 2);
        CHECK.due("presence stays", x.count(4), 1);
        CHECK.due("reserve stays", x.count(12), 5);
        CHECK.due("states", x.count(14), 5);
        CHECK.due("snapshots stay", x.restore(1), 6);
        CHECK.due("marks are back", x.count(6), 1);
        x.undo();
        CHECK.due("undo", x.undo(), 3);
        CHECK.due("the old score", x.beat(0, 0), 2);
        CHECK.due("the old solo", x.solo(0, 2), 2);
        CHECK.due("the text is no part of the state", x.count(15), 3);
    }

    private static void settingLoudness() {
        LongTones x = Check.withScore("o-.-");
        CHECK.due("from -1", x.setLoudness(-1, 2, 3), LongTones.UNKNOWN);
        CHECK.due("from 4", x.setLoudness(4, 4, 3), LongTones.UNKNOWN);
        CHECK.due("to 4", x.setLoudness(0, 4, 3), LongTones.UNKNOWN);
        CHECK.due("to -1", x.setLoudness(0, -1, 3), LongTones.UNKNOWN);
        CHECK.due("UNKNOWN ahead of BAD_VALUE", x.setLoudness(0, 4, 9), LongTones.UNKNOWN);
        CHECK.due("to ahead of from", x.setLoudness(2, 1, 3), LongTones.BAD_VALUE);
        CHECK.due("loudness 0", x.setLoudness(0, 3, 0), LongTones.BAD_VALUE);
        CHECK.due("loudness 6", x.setLoudness(0, 3, 6), LongTones.BAD_VALUE);
        CHECK.due("errors are not recorded", x.count(14), 1);
        CHECK.due("errors change nothing", x.beat(1, 1), 2);
        CHECK.due("1 to 3", x.setLoudness(1, 3, 5), 2);
        CHECK.due("of 0", x.beat(0, 1), 2);
        CHECK.due("of 1", x.beat(1, 1), 5);
        CHECK.due("of 3", x.beat(3, 1), 5);
        CHECK.due("one rest", x.setLoudness(2, 2, 1), 0);
        CHECK.due("of the rest", x.beat(2, 1), 1);
        CHECK.due("a rest that sounds keeps it", x.setSort(2, 1), 0);
        CHECK.due("of that beat", x.beat(2, 1), 1);
        CHECK.due("an act", x.count(14), 4);
        CHECK.due("the same again", x.setLoudness(2, 2, 1), 1);
        CHECK.due("is an act, too", x.count(14), 5);
        x.undo();
        x.undo();
        x.undo();
        x.undo();
        CHECK.due("undone", x.beat(1, 1), 2);
    }

    private static void settingSorts() {
        LongTones x = Check.withScore("o4-.");
        CHECK.due("beat -1", x.setSort(-1, 0), LongTones.UNKNOWN);
        CHECK.due("beat 3", x.setSort(3, 0), LongTones.UNKNOWN);
        CHECK.due("UNKNOWN ahead of BAD_VALUE", x.setSort(3, 3), LongTones.UNKNOWN);
        CHECK.due("sort -1", x.setSort(0, -1), LongTones.BAD_VALUE);
        CHECK.due("sort 3", x.setSort(0, 3), LongTones.BAD_VALUE);
        CHECK.due("no acts", x.count(14), 1);
        CHECK.due("beginning to rest", x.setSort(0, 0), 2);
        CHECK.due("its sort", x.beat(0, 0), 0);
        CHECK.due("its loudness", x.beat(0, 1), 4);
        CHECK.due("tone to beginning", x.setSort(1, 2), 1);
        CHECK.due("rest to tone", x.setSort(2, 1), 0);
        CHECK.due("its loudness", x.beat(2, 1), 2);
        CHECK.due("the same again", x.setSort(2, 1), 1);
        CHECK.due("acts", x.count(14), 5);
        x.undo();
        x.undo();
        CHECK.due("undone", x.beat(2, 0), 0);
        LongTones y = Check.withScore("o-x3");
        y.addSinger(9, 3);
        y.mark(0, 2, true);
        y.addSolo(0, 1, 2);
        y.setSort(2, 0);
        CHECK.due("the mark stays", y.count(6), 1);
        CHECK.due("the solo stays", y.solo(0, 2), 2);
        CHECK.due("the mark plays no part", y.does(0, 2), 3);
    }
}
