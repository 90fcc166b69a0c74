/** Promises 14 to 16: undo and snapshots. */
public final class HistoryTest {
    private static final Check CHECK = new Check("HistoryTest");

    public static void main(String[] args) {
        undoing();
        atMostFive();
        wholeStates();
        keeping();
        restoring();
        CHECK.end();
    }

    private static void undoing() {
        LongTones x = new LongTones();
        CHECK.due("empty", x.undo(), LongTones.NONE);
        x.setReserve(3);
        x.setReserve(4);
        CHECK.due("one", x.undo(), 1);
        CHECK.due("reserve", x.count(12), 3);
        CHECK.due("undo is no act", x.count(14), 1);
        CHECK.due("two", x.undo(), 0);
        CHECK.due("reserve", x.count(12), 2);
        CHECK.due("empty again", x.undo(), LongTones.NONE);
        x.setReserve(5);
        CHECK.due("goes on", x.undo(), 0);
        CHECK.due("reserve", x.count(12), 2);
    }

    private static void atMostFive() {
        LongTones x = new LongTones();
        for (int reserve = 1; reserve <= 8; reserve++) {
            x.setReserve(reserve);
            CHECK.due("states", x.count(14), Math.min(reserve, 5));
        }
        for (int left = 4; left >= 0; left--) {
            CHECK.due("undo", x.undo(), left);
            CHECK.due("reserve", x.count(12), left + 3);
        }
        CHECK.due("the oldest ones are dropped", x.undo(), LongTones.NONE);
        CHECK.due("reserve", x.count(12), 3);
        for (int reserve = 1; reserve <= 8; reserve++) {
            x.setReserve(reserve);
        }
        x.undo();
        CHECK.due("once more around", x.count(12), 7);
    }

    private static LongTones rich() {
        LongTones x = Check.withScore("o3-4.-x3");
        x.addSinger(9, 3);
        x.addSinger(12, 4);
        x.setPresent(0, false);
        x.addSolo(1, 3, 4);
        x.mark(1, 1, true);
        x.setReserve(6);
        return x;
    }

    private static void dueRich(String when, LongTones x) {
        CHECK.due(when + ": beats", x.count(0), 6);
        CHECK.due(when + ": sort", x.beat(2, 0), 0);
        CHECK.due(when + ": loudness", x.beat(1, 1), 4);
        CHECK.due(when + ": singers", x.count(3), 2);
        CHECK.due(when + ": breath", x.singer(1, 0), 12);
        CHECK.due(when + ": recovery", x.singer(0, 1), 3);
        CHECK.due(when + ": presence", x.singer(0, 2), 0);
        CHECK.due(when + ": solo", x.solo(0, 0) * 100 + x.solo(0, 1) * 10 + x.solo(0, 2), 134);
        CHECK.due(when + ": marks", x.does(1, 1), 1);
        CHECK.due(when + ": all marks", x.count(6), 1);
        CHECK.due(when + ": reserve", x.count(12), 6);
    }

    private static void changeAll(LongTones x) {
        Check.readText(x, ".o5");
        x.setPresent(0, true);
        x.setReserve(1);
        x.mark(1, 1, true);
        x.addSinger(33, 9);
    }

    private static void wholeStates() {
        LongTones x = rich();
        changeAll(x);
        for (int i = 0; i < 5; i++) {
            x.undo();
        }
        dueRich("undo", x);
        CHECK.due("the text is not undone", x.count(15), 3);
    }

    private static void keeping() {
        LongTones x = rich();
        CHECK.due("slot -1", x.keep(-1), LongTones.UNKNOWN);
        CHECK.due("slot 2", x.keep(2), LongTones.UNKNOWN);
        CHECK.due("keep", x.keep(0), 6);
        CHECK.due("no act", x.count(14), 5);
        changeAll(x);
        CHECK.due("another slot", x.keep(1), 2);
        CHECK.due("restore", x.restore(0), 6);
        dueRich("restore", x);
        CHECK.due("restore the other", x.restore(1), 2);
        CHECK.due("its singers", x.count(3), 3);
        CHECK.due("in place of what is there", x.keep(0), 2);
        x.restore(0);
        CHECK.due("the old one is gone", x.count(0), 2);
        CHECK.due("an empty score", new LongTones().keep(1), 0);
    }

    private static void restoring() {
        LongTones x = rich();
        CHECK.due("slot -1", x.restore(-1), LongTones.UNKNOWN);
        CHECK.due("slot 2", x.restore(2), LongTones.UNKNOWN);
        CHECK.due("empty", x.restore(0), LongTones.NONE);
        x.undo();
        x.undo();
        CHECK.due("errors and NONE are no acts", x.count(14), 3);
        x.keep(1);
        CHECK.due("the other slot is empty yet", x.restore(0), LongTones.NONE);
        CHECK.due("restore", x.restore(1), 6);
        CHECK.due("an act", x.count(14), 4);
        x.setReserve(8);
        x.mark(0, 0, true);
        CHECK.due("stays", x.restore(1), 6);
        CHECK.due("its marks", x.count(6), 0);
        x.setSort(0, 0);
        CHECK.due("is no part of what is changed", x.restore(1), 6);
        CHECK.due("its sort", x.beat(0, 0), 2);
        x.undo();
        CHECK.due("undone", x.beat(0, 0), 0);
        CHECK.due("snapshots are not undone", x.restore(1), 6);
        x.clearText();
        x.type('.');
        x.restore(1);
        CHECK.due("the text is no part of it", x.count(15), 1);
        CHECK.due("nor the history", x.count(14), 5);
        LongTones empty = new LongTones();
        empty.keep(0);
        CHECK.due("an empty score", empty.restore(0), 0);
    }
}
