/** The edges that the promises 14 to 16 name: undo and snapshots. */
public final class HistoryEdgesTest {
    private static final Check CHECK = new Check("HistoryEdgesTest");
    private static final Twins TWINS = new Twins(CHECK);
    private static final int UNKNOWN = LongTones.UNKNOWN;
    private static final int NONE = LongTones.NONE;
    private static final int[] NO_SLOTS = {Integer.MIN_VALUE, -2, -1, 2, 3, Integer.MAX_VALUE};

    public static void main(String[] args) throws ReflectiveOperationException {
        CHECK.runAll(HistoryEdgesTest.class);
    }

    /** A text and snapshots, but no history. */
    private static LongTones withoutHistory() {
        LongTones x = Recipes.roomy();
        x.undo();
        x.undo();
        return x;
    }

    // ---- Promise 14

    /** "NONE if the history is empty." */
    static void promise14TellsNoneWithoutHistory() {
        TWINS.refused("a new object", LongTones::new, LongTones::undo, NONE);
        TWINS.refused("all is undone", HistoryEdgesTest::withoutHistory, LongTones::undo, NONE);
    }

    /** "Returns the number of states that are left". */
    static void promise14CountsDownTo0() {
        LongTones x = Recipes.rich();
        for (int left = 4; left >= 0; left--) {
            CHECK.due("undo", x.undo(), left);
            CHECK.due("count", x.count(14), left);
        }
        CHECK.due("no more", x.undo(), NONE);
    }

    /** "Restores the latest state of the history." */
    static void promise14RestoresTheLatestState() {
        LongTones x = Recipes.rich();
        x.undo();
        CHECK.due("the reserve", x.count(12), 2);
        CHECK.due("marks", x.count(6), 3);
        x.undo();
        CHECK.due("one mark less", x.count(6), 2);
        x.undo();
        CHECK.due("one more less", x.count(6), 1);
        CHECK.due("the solo", x.count(5), 1);
        x.undo();
        CHECK.due("no solo", x.count(5), 0);
        CHECK.due("who is present", x.count(4), 2);
        x.undo();
        CHECK.due("all are present", x.count(4), 3);
    }

    static void promise14IsNoActItself() {
        LongTones x = new LongTones();
        x.setReserve(3);
        x.setReserve(4);
        x.undo();
        x.undo();
        CHECK.due("there is nothing to bring back", x.undo(), NONE);
        CHECK.due("the reserve", x.count(12), 2);
    }

    static void promise14LeavesTextAndSnapshots() {
        LongTones x = Recipes.roomy();
        x.undo();
        CHECK.due("the text", x.count(15), 12);
        CHECK.due("slot 0", x.restore(0), 7);
        CHECK.due("its solos", x.count(5), 0);
        CHECK.due("slot 1", x.restore(1), 7);
        CHECK.due("its solos", x.count(5), 1);
    }

    /** A full history loses its oldest state by an act, and by nothing else. */
    static void promise14TheSixthActDropsTheOldestState() {
        LongTones x = Recipes.rich();
        x.setReserve(1);
        CHECK.due("states", x.count(14), 5);
        for (int i = 0; i < 5; i++) {
            x.undo();
        }
        CHECK.due("the absent one is absent yet", x.count(4), 2);
        CHECK.due("no more", x.undo(), NONE);
        LongTones y = Recipes.rich();
        y.setReserve(9);
        y.setPresent(0, true);
        for (int i = 0; i < 5; i++) {
            y.undo();
        }
        CHECK.due("refused calls drop nothing", y.count(4), 3);
    }

    // ---- Promise 15

    /** "`slot`: 0 or 1", "UNKNOWN." */
    static void promise15RefusesOtherSlots() {
        for (int slot : NO_SLOTS) {
            TWINS.refused("keep(" + slot + ")", Recipes::rich, x -> x.keep(slot), UNKNOWN);
        }
    }

    /** "Returns the number of beats". */
    static void promise15TellsFrom0To96Beats() {
        CHECK.due("no beats, slot 0", new LongTones().keep(0), 0);
        CHECK.due("no beats, slot 1", new LongTones().keep(1), 0);
        CHECK.due("96 beats", Check.withScore("-x96").keep(1), 96);
    }

    /** "Takes a snapshot of the state, in place of what is there." */
    static void promise15ReplacesTheSnapshotOfItsSlotAlone() {
        LongTones x = Check.withScore("o");
        x.keep(0);
        x.keep(1);
        Check.readText(x, "oo");
        CHECK.due("keep(1)", x.keep(1), 2);
        CHECK.due("slot 0", x.restore(0), 1);
        CHECK.due("slot 1", x.restore(1), 2);
        Check.readText(x, "ooo");
        CHECK.due("keep(0)", x.keep(0), 3);
        CHECK.due("slot 1 stays", x.restore(1), 2);
        CHECK.due("slot 0 is another one", x.restore(0), 3);
    }

    static void promise15KeepsWhatIsChangedLater() {
        LongTones x = Recipes.roomy();
        x.keep(0);
        x.setReserve(8);
        x.setSort(0, 0);
        x.setLoudness(0, 6, 5);
        x.setPresent(0, false);
        x.removeSolo(0);
        x.addSolo(2, 0, 0);
        x.mark(2, 6, true);
        x.addSinger(33, 3);
        x.restore(0);
        CHECK.due("reserve", x.count(12), 2);
        CHECK.due("sort", x.beat(0, 0), 2);
        CHECK.due("loudness", x.beat(0, 1), 3);
        CHECK.due("presence", x.singer(0, 2), 1);
        CHECK.due("solos", x.count(5), 1);
        CHECK.due("the solo", x.solo(0, 1), 3);
        CHECK.due("marks", x.count(6), 1);
        CHECK.due("singers", x.count(3), 3);
    }

    static void promise15IsNoAct() {
        LongTones x = Recipes.roomy();
        x.keep(0);
        x.keep(1);
        CHECK.due("states", x.count(14), 2);
        TWINS.unchanged("the same snapshot again", Recipes::roomy, y -> y.keep(1));
    }

    // ---- Promise 16

    /** "UNKNOWN; NONE if there is no such snapshot." */
    static void promise16RefusesOtherSlots() {
        for (int slot : NO_SLOTS) {
            TWINS.refused("restore(" + slot + ")", Recipes::rich, x -> x.restore(slot), UNKNOWN);
            CHECK.due("restore(" + slot + ") of a new object", new LongTones().restore(slot), UNKNOWN);
        }
    }

    static void promise16TellsNoneOfAnEmptySlot() {
        TWINS.refused("slot 1", Recipes::rich, x -> x.restore(1), NONE);
        TWINS.refused("slot 0", Recipes::withoutSingers, x -> x.restore(0), NONE);
    }

    /** "Restores the state of a snapshot, which stays." */
    static void promise16TheSnapshotStays() {
        LongTones x = Recipes.roomy();
        for (int i = 0; i < 3; i++) {
            CHECK.due("restore", x.restore(0), 7);
            CHECK.due("solos", x.count(5), 0);
            x.addSolo(2, 0, 6);
            x.setReserve(8);
        }
    }

    /** "Returns the number of beats then". */
    static void promise16TellsFrom0To96Beats() {
        LongTones x = new LongTones();
        x.keep(0);
        Check.readText(x, "-x96");
        x.keep(1);
        CHECK.due("no beats", x.restore(0), 0);
        CHECK.due("beat 0 is gone", x.beat(0, 0), UNKNOWN);
        CHECK.due("96 beats", x.restore(1), 96);
        CHECK.due("beat 95 is back", x.beat(95, 0), 1);
    }

    static void promise16RestoresMarksOfALongerScore() {
        LongTones x = Check.withChoir("-x96", 40, 10);
        x.mark(0, 95, true);
        x.keep(0);
        Check.readText(x, "o");
        x.restore(0);
        CHECK.due("marks", x.singer(0, 3), 1);
        CHECK.due("beat 95", x.does(0, 95), 1);
        x.undo();
        CHECK.due("beats", x.count(0), 1);
        CHECK.due("no marks", x.count(6), 0);
    }

    /** Singers who took the numbers of others meanwhile are gone with all that is theirs. */
    static void promise16RestoresSingersAndSolos() {
        LongTones x = Check.withScore("ox9");
        x.keep(1);
        x.addSinger(9, 3);
        x.addSinger(12, 4);
        x.addSolo(1, 4, 6);
        x.keep(0);
        x.restore(1);
        CHECK.due("nobody is there", x.count(3), 0);
        x.addSinger(33, 10);
        x.addSolo(0, 2, 3);
        x.restore(0);
        CHECK.due("the breath of 0", x.singer(0, 0), 9);
        CHECK.due("the recovery of 0", x.singer(0, 1), 3);
        CHECK.due("the breath of 1", x.singer(1, 0), 12);
        CHECK.due("the recovery of 1", x.singer(1, 1), 4);
        int[] solo = {1, 4, 6};
        for (int what = 0; what < 3; what++) {
            CHECK.due("solo(0, " + what + ")", x.solo(0, what), solo[what]);
        }
        x.undo();
        CHECK.due("one singer", x.count(3), 1);
        CHECK.due("this breath", x.singer(0, 0), 33);
        CHECK.due("this recovery", x.singer(0, 1), 10);
        CHECK.due("this solo", x.solo(0, 1), 2);
    }

    static void promise16LeavesTextAndHistory() {
        LongTones x = Recipes.roomy();
        x.clearText();
        x.restore(0);
        CHECK.due("the text", x.count(15), 0);
        CHECK.due("states", x.count(14), 3);
        x.undo();
        CHECK.due("the solo is back", x.count(5), 1);
        CHECK.due("and the older states", x.undo(), 1);
        CHECK.due("ahead of the solo", x.count(5), 0);
    }

    /** "This is an act." */
    static void promise16IsAnAct() {
        TWINS.undone("another state", Recipes::roomy, x -> x.restore(0));
        TWINS.undone("the same state", Recipes::roomy, x -> x.restore(1));
        LongTones x = Recipes.rich();
        x.restore(0);
        CHECK.due("a full history stays full", x.count(14), 5);
        for (int i = 0; i < 5; i++) {
            x.undo();
        }
        CHECK.due("its oldest state is dropped", x.count(4), 2);
    }
}
