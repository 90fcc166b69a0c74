/** The edges that the promises 7 to 10 name: singers, their presence, and solos. */
public final class SingersEdgesTest {
    private static final Check CHECK = new Check("SingersEdgesTest");
    private static final Twins TWINS = new Twins(CHECK);
    private static final int UNKNOWN = LongTones.UNKNOWN;
    private static final int BAD_VALUE = LongTones.BAD_VALUE;
    private static final int NOT_POSSIBLE = LongTones.NOT_POSSIBLE;
    private static final int LEAST = Integer.MIN_VALUE;
    private static final int MOST = Integer.MAX_VALUE;

    public static void main(String[] args) throws ReflectiveOperationException {
        CHECK.runAll(SingersEdgesTest.class);
    }

    // ---- Promise 7

    /** "`breath`: 4 to 40". */
    static void promise7TakesBreathsFrom4To40() {
        LongTones x = new LongTones();
        CHECK.due("4", x.addSinger(4, 5), 0);
        CHECK.due("40", x.addSinger(40, 5), 1);
        CHECK.due("is 4", x.singer(0, 0), 4);
        CHECK.due("is 40", x.singer(1, 0), 40);
        int[] wrong = {LEAST, -4, 0, 3, 41, MOST};
        for (int breath : wrong) {
            TWINS.refused("breath " + breath, Recipes::rich, y -> y.addSinger(breath, 5), BAD_VALUE);
        }
    }

    /** "`recovery`: 1 to 10". */
    static void promise7TakesRecoveriesFrom1To10() {
        LongTones x = new LongTones();
        CHECK.due("1", x.addSinger(9, 1), 0);
        CHECK.due("10", x.addSinger(9, 10), 1);
        CHECK.due("is 1", x.singer(0, 1), 1);
        CHECK.due("is 10", x.singer(1, 1), 10);
        int[] wrong = {LEAST, -1, 0, 11, MOST};
        for (int recovery : wrong) {
            TWINS.refused("recovery " + recovery, Recipes::rich, y -> y.addSinger(9, recovery), BAD_VALUE);
        }
    }

    /** "Returns the number; BAD_VALUE; FULL if there are 12." */
    static void promise7AddsUpTo12Singers() {
        LongTones x = new LongTones();
        for (int singer = 0; singer < 12; singer++) {
            CHECK.due("singer " + singer, x.addSinger(9 + singer, 2), singer);
        }
        CHECK.due("the first one", x.singer(0, 0), 9);
        CHECK.due("the last one", x.singer(11, 0), 20);
        TWINS.refused("a 13th", Recipes::twelveSingers, y -> y.addSinger(9, 2), LongTones.FULL);
        TWINS.refused("BAD_VALUE ahead of FULL: breath", Recipes::twelveSingers, y -> y.addSinger(3, 2),
            BAD_VALUE);
        TWINS.refused("BAD_VALUE ahead of FULL: recovery", Recipes::twelveSingers, y -> y.addSinger(9, 11),
            BAD_VALUE);
    }

    static void promise7ThereIsRoomAgainBehindUndo() {
        LongTones x = Recipes.twelveSingers();
        x.undo();
        CHECK.due("a 12th again", x.addSinger(33, 7), 11);
        CHECK.due("its breath", x.singer(11, 0), 33);
        CHECK.due("a 13th", x.addSinger(33, 7), LongTones.FULL);
    }

    static void promise7NewSingersArePresentWithoutMarks() {
        LongTones x = Recipes.allAbsent();
        x.mark(1, 2, true);
        x.keep(0);
        CHECK.due("a third one", x.addSinger(9, 2), 2);
        CHECK.due("is present", x.singer(2, 2), 1);
        CHECK.due("has no marks", x.singer(2, 3), 0);
        x.mark(2, 0, true);
        x.setPresent(2, false);
        x.restore(0);
        CHECK.due("another third one", x.addSinger(9, 2), 2);
        CHECK.due("is present", x.singer(2, 2), 1);
        CHECK.due("has no marks", x.singer(2, 3), 0);
    }

    static void promise7TheAbsentCountAsSingers() {
        LongTones x = Recipes.twelveSingers();
        x.setPresent(3, false);
        CHECK.due("a 13th", x.addSinger(9, 2), LongTones.FULL);
    }

    /** "This is an act." */
    static void promise7IsAnAct() {
        TWINS.undone("addSinger", Recipes::roomy, x -> x.addSinger(9, 2));
    }

    // ---- Promise 8

    /** "`singer`: a singer". */
    static void promise8SetsTheFirstAndTheLastSinger() {
        LongTones x = Recipes.twelveSingers();
        CHECK.due("singer 0", x.setPresent(0, false), 11);
        CHECK.due("singer 11", x.setPresent(11, false), 10);
        for (int singer = 0; singer < 12; singer++) {
            int due = singer == 0 || singer == 11 ? 0 : 1;
            CHECK.due("presence of " + singer, x.singer(singer, 2), due);
        }
        int[] wrong = {LEAST, -1, 3, 12, 31, 32, MOST};
        for (int singer : wrong) {
            TWINS.refused("absent: " + singer, Recipes::rich, y -> y.setPresent(singer, false), UNKNOWN);
            TWINS.refused("present: " + singer, Recipes::rich, y -> y.setPresent(singer, true), UNKNOWN);
        }
        CHECK.due("singer 12 of twelve", x.setPresent(12, true), UNKNOWN);
        CHECK.due("nobody", new LongTones().setPresent(0, true), UNKNOWN);
    }

    /** "NONE if it is so already." */
    static void promise8TellsNoneIfItIsSoAlready() {
        TWINS.refused("present already", Recipes::rich, x -> x.setPresent(0, true), LongTones.NONE);
        TWINS.refused("absent already", Recipes::rich, x -> x.setPresent(2, false), LongTones.NONE);
    }

    /** "Returns the number of singers who are present then". */
    static void promise8CountsFromNobodyToAll() {
        LongTones x = Check.withChoir("o", 9, 1, 9, 1);
        CHECK.due("one is left", x.setPresent(0, false), 1);
        CHECK.due("nobody is left", x.setPresent(1, false), 0);
        CHECK.due("one is back", x.setPresent(0, true), 1);
        CHECK.due("all are back", x.setPresent(1, true), 2);
    }

    static void promise8LeavesMarksAndSolos() {
        LongTones x = Recipes.rich();
        x.setPresent(1, false);
        CHECK.due("marks", x.singer(1, 3), 2);
        CHECK.due("the solo", x.solo(0, 0), 1);
    }

    /** "This is an act." */
    static void promise8IsAnAct() {
        TWINS.undone("absent", Recipes::roomy, x -> x.setPresent(0, false));
        TWINS.undone("present", Recipes::roomy, x -> x.setPresent(2, true));
    }

    // ---- Promise 9

    private static LongTones sixteen() {
        return Check.withChoir("ox16", 9, 3, 9, 3);
    }

    /** "`singer`: a singer", "`from`: a beat", "`to`: a beat, not before the first one". */
    static void promise9AddsFromTheFirstToTheLastBeat() {
        LongTones x = Check.withChoir("-x96", 9, 3);
        CHECK.due("all beats", x.addSolo(0, 0, 95), 0);
        CHECK.due("its first beat", x.solo(0, 1), 0);
        CHECK.due("its last beat", x.solo(0, 2), 95);
        x.removeSolo(0);
        CHECK.due("the last beat alone", x.addSolo(0, 95, 95), 0);
        CHECK.due("the first beat alone", x.addSolo(0, 0, 0), 0);
        CHECK.due("all between", x.addSolo(0, 1, 94), 1);
        LongTones last = Recipes.twelveSingers();
        CHECK.due("the last singer, on a rest", last.addSolo(11, 2, 2), 0);
        CHECK.due("is its singer", last.solo(0, 0), 11);
    }

    /** "UNKNOWN for singer and beats". */
    static void promise9RefusesUnknownSingersAndBeats() {
        int[][] wrong = {{-1, 0, 0}, {3, 0, 0}, {LEAST, 0, 0}, {MOST, 0, 0}, {0, -1, 0}, {0, 0, -1},
            {0, -1, -1}, {0, 7, 7}, {0, 6, 7}, {0, 7, 6}, {0, LEAST, 0}, {0, 0, MOST}};
        for (int[] solo : wrong) {
            TWINS.refused("solo of " + solo[0] + ", " + solo[1] + " to " + solo[2], Recipes::rich,
                x -> x.addSolo(solo[0], solo[1], solo[2]), UNKNOWN);
        }
        TWINS.refused("nobody", Recipes::withoutSingers, x -> x.addSolo(0, 0, 0), UNKNOWN);
        TWINS.refused("no beats", Recipes::withoutBeats, x -> x.addSolo(0, 0, 0), UNKNOWN);
    }

    static void promise9RefusesToAheadOfFrom() {
        TWINS.refused("1 to 0", Recipes::rich, x -> x.addSolo(0, 1, 0), BAD_VALUE);
        TWINS.refused("6 to 0", Recipes::rich, x -> x.addSolo(0, 6, 0), BAD_VALUE);
    }

    /** "NOT_POSSIBLE if it overlaps another one". */
    static void promise9RefusesOverlaps() {
        // The solo of the rich one goes from 3 to 4.
        int[][] wrong = {{3, 4}, {3, 3}, {4, 4}, {2, 3}, {4, 5}, {2, 5}, {0, 6}, {0, 3}, {4, 6}};
        for (int[] solo : wrong) {
            for (int singer = 0; singer < 3; singer++) {
                int who = singer;
                TWINS.refused(who + ": " + solo[0] + " to " + solo[1], Recipes::rich,
                    x -> x.addSolo(who, solo[0], solo[1]), NOT_POSSIBLE);
            }
        }
        LongTones x = Recipes.rich();
        CHECK.due("up to it", x.addSolo(0, 0, 2), 0);
        CHECK.due("from it on", x.addSolo(0, 5, 6), 2);
        LongTones longer = sixteen();
        longer.addSolo(0, 4, 9);
        CHECK.due("inside", longer.addSolo(0, 6, 7), NOT_POSSIBLE);
        CHECK.due("around", longer.addSolo(0, 3, 10), NOT_POSSIBLE);
    }

    /** "FULL if there are 8." */
    static void promise9AddsUpTo8Solos() {
        LongTones x = sixteen();
        for (int solo = 0; solo < 8; solo++) {
            CHECK.due("solo " + solo, x.addSolo(solo % 2, 2 * solo, 2 * solo), solo);
        }
        TWINS.refused("a ninth", Recipes::eightSolos, y -> y.addSolo(0, 15, 15), LongTones.FULL);
        TWINS.refused("a ninth between", Recipes::eightSolos, y -> y.addSolo(0, 1, 1), LongTones.FULL);
        LongTones full = Recipes.eightSolos();
        full.removeSolo(3);
        CHECK.due("an eighth again", full.addSolo(0, 15, 15), 7);
    }

    /** "UNKNOWN for singer and beats; BAD_VALUE; NOT_POSSIBLE ..; FULL ..". */
    static void promise9TellsErrorsInTheirOrder() {
        LongTones x = Recipes.eightSolos();
        CHECK.due("UNKNOWN ahead of BAD_VALUE: singer", x.addSolo(1, 2, 1), UNKNOWN);
        CHECK.due("UNKNOWN ahead of BAD_VALUE: from", x.addSolo(0, 16, 1), UNKNOWN);
        CHECK.due("UNKNOWN ahead of BAD_VALUE: to", x.addSolo(0, 2, -1), UNKNOWN);
        CHECK.due("UNKNOWN ahead of NOT_POSSIBLE", x.addSolo(1, 0, 2), UNKNOWN);
        CHECK.due("UNKNOWN ahead of NOT_POSSIBLE: to", x.addSolo(0, 0, 16), UNKNOWN);
        CHECK.due("UNKNOWN ahead of FULL", x.addSolo(1, 15, 15), UNKNOWN);
        CHECK.due("BAD_VALUE ahead of NOT_POSSIBLE", x.addSolo(0, 2, 0), BAD_VALUE);
        CHECK.due("BAD_VALUE ahead of FULL", x.addSolo(0, 15, 13), BAD_VALUE);
        CHECK.due("NOT_POSSIBLE ahead of FULL", x.addSolo(0, 14, 15), NOT_POSSIBLE);
        CHECK.due("FULL", x.addSolo(0, 15, 15), LongTones.FULL);
    }

    /** "Returns its place among the solos, from 0". */
    static void promise9TellsThePlace() {
        LongTones x = sixteen();
        CHECK.due("the first one", x.addSolo(0, 8, 9), 0);
        CHECK.due("ahead of it", x.addSolo(1, 4, 5), 0);
        CHECK.due("behind both", x.addSolo(1, 12, 13), 2);
        CHECK.due("between", x.addSolo(0, 6, 7), 1);
        CHECK.due("between, too", x.addSolo(1, 10, 11), 3);
        CHECK.due("ahead of all", x.addSolo(0, 0, 0), 0);
        int[][] due = {{0, 0, 0}, {1, 4, 5}, {0, 6, 7}, {0, 8, 9}, {1, 10, 11}, {1, 12, 13}};
        for (int solo = 0; solo < due.length; solo++) {
            for (int what = 0; what < 3; what++) {
                CHECK.due("solo " + solo + ", " + what, x.solo(solo, what), due[solo][what]);
            }
        }
    }

    static void promise9TheAbsentMayHaveSolos() {
        CHECK.due("absent", Recipes.rich().addSolo(2, 0, 1), 0);
    }

    /** "This is an act." */
    static void promise9IsAnAct() {
        TWINS.undone("ahead of the solo", Recipes::roomy, x -> x.addSolo(0, 0, 1));
        TWINS.undone("behind the solo", Recipes::roomy, x -> x.addSolo(2, 5, 6));
    }

    // ---- Promise 10

    /** "`solo`: its place". */
    static void promise10RemovesTheFirstAndTheLastSolo() {
        LongTones x = Recipes.eightSolos();
        CHECK.due("the last of 8", x.removeSolo(7), 7);
        CHECK.due("the first", x.removeSolo(0), 6);
        CHECK.due("one between", x.removeSolo(2), 5);
        int[] starts = {2, 4, 8, 10, 12};
        for (int solo = 0; solo < starts.length; solo++) {
            CHECK.due("first beat of " + solo, x.solo(solo, 1), starts[solo]);
            CHECK.due("last beat of " + solo, x.solo(solo, 2), starts[solo]);
        }
        CHECK.due("there is no other one", x.solo(5, 0), UNKNOWN);
        CHECK.due("its beat is in none", x.beat(6, 4), LongTones.NONE);
    }

    /** "UNKNOWN." */
    static void promise10RefusesUnknownPlaces() {
        int[] wrong = {LEAST, -1, 1, 8, MOST};
        for (int solo : wrong) {
            TWINS.refused("place " + solo, Recipes::rich, x -> x.removeSolo(solo), UNKNOWN);
        }
        TWINS.refused("place 8 of 8", Recipes::eightSolos, x -> x.removeSolo(8), UNKNOWN);
        TWINS.refused("no solos", Recipes::twelveSingers, x -> x.removeSolo(0), UNKNOWN);
    }

    /** "Returns the number of solos then". */
    static void promise10CountsDownTo0() {
        LongTones x = Recipes.eightSolos();
        for (int left = 7; left >= 0; left--) {
            CHECK.due("removeSolo", x.removeSolo(0), left);
            CHECK.due("count", x.count(5), left);
        }
        CHECK.due("none is left", x.removeSolo(0), UNKNOWN);
    }

    static void promise10KeepsTheSingersOfTheOthers() {
        LongTones x = sixteen();
        x.addSolo(0, 0, 1);
        x.addSolo(1, 3, 5);
        x.addSolo(0, 6, 9);
        x.removeSolo(0);
        int[][] due = {{1, 3, 5}, {0, 6, 9}};
        for (int solo = 0; solo < due.length; solo++) {
            for (int what = 0; what < 3; what++) {
                CHECK.due("solo " + solo + ", " + what, x.solo(solo, what), due[solo][what]);
            }
        }
    }

    /** "This is an act." */
    static void promise10IsAnAct() {
        TWINS.undone("removeSolo", Recipes::roomy, x -> x.removeSolo(0));
    }
}
