/** The edges that the promises 11 to 13 name: marks, the reserve, and the making of a plan. */
public final class PlanEdgesTest {
    private static final Check CHECK = new Check("PlanEdgesTest");
    private static final Twins TWINS = new Twins(CHECK);
    private static final int UNKNOWN = LongTones.UNKNOWN;
    private static final int NOT_POSSIBLE = LongTones.NOT_POSSIBLE;
    private static final int NONE = LongTones.NONE;
    private static final int LEAST = Integer.MIN_VALUE;
    private static final int MOST = Integer.MAX_VALUE;

    public static void main(String[] args) throws ReflectiveOperationException {
        CHECK.runAll(PlanEdgesTest.class);
    }

    // ---- Promise 11

    /** "`singer`: a singer", "`beat`: a beat". */
    static void promise11MarksTheFirstAndTheLast() {
        LongTones x = Check.withEqualSingers("-x96", 12, 9, 1);
        CHECK.due("singer 0, beat 0", x.mark(0, 0, true), 1);
        CHECK.due("singer 0, beat 95", x.mark(0, 95, true), 2);
        CHECK.due("singer 11, beat 0", x.mark(11, 0, true), 1);
        CHECK.due("singer 11, beat 95", x.mark(11, 95, true), 2);
        CHECK.due("all of them", x.count(6), 4);
        int[][] marked = {{0, 0}, {0, 95}, {11, 0}, {11, 95}};
        for (int[] mark : marked) {
            CHECK.due(mark[0] + " breathes in " + mark[1], x.does(mark[0], mark[1]), 1);
        }
        CHECK.due("singer 1", x.singer(1, 3), 0);
        CHECK.due("singer 10", x.singer(10, 3), 0);
    }

    /** "UNKNOWN". */
    static void promise11RefusesUnknownSingersAndBeats() {
        int[][] wrong = {{-1, 0}, {3, 0}, {LEAST, 0}, {MOST, 0}, {32, 1}, {0, -1}, {0, 7}, {0, LEAST},
            {0, MOST}, {3, 7}, {-1, -1}};
        for (int[] mark : wrong) {
            String label = "singer " + mark[0] + ", beat " + mark[1];
            TWINS.refused(label, Recipes::rich, x -> x.mark(mark[0], mark[1], true), UNKNOWN);
            TWINS.refused(label + ", away", Recipes::rich, x -> x.mark(mark[0], mark[1], false), UNKNOWN);
        }
        TWINS.refused("nobody", Recipes::withoutSingers, x -> x.mark(0, 0, true), UNKNOWN);
        TWINS.refused("no beats", Recipes::withoutBeats, x -> x.mark(0, 0, true), UNKNOWN);
        CHECK.due("singer 12 of twelve", Recipes.twelveSingers().mark(12, 0, true), UNKNOWN);
        CHECK.due("beat 96 of 96", Check.withChoir("-x96", 9, 1).mark(0, 96, true), UNKNOWN);
    }

    /** "NONE if it is so already." */
    static void promise11TellsNoneIfItIsSoAlready() {
        TWINS.refused("a mark already", Recipes::rich, x -> x.mark(0, 4, true), NONE);
        TWINS.refused("no mark already", Recipes::rich, x -> x.mark(0, 3, false), NONE);
        TWINS.refused("the mark of another one", Recipes::rich, x -> x.mark(0, 1, false), NONE);
    }

    /** "Returns the number of marks of the singer then". */
    static void promise11CountsFrom0To96() {
        LongTones x = Check.withChoir("-x96", 9, 1, 9, 1);
        x.mark(1, 5, true);
        for (int beat = 0; beat < 96; beat++) {
            CHECK.due("mark on " + beat, x.mark(0, beat, true), beat + 1);
        }
        CHECK.due("all marks", x.count(6), 97);
        for (int beat = 0; beat < 96; beat++) {
            CHECK.due("away from " + beat, x.mark(0, beat, false), 95 - beat);
        }
        CHECK.due("the mark of the other one stays", x.count(6), 1);
    }

    static void promise11CountsMarksThatPlayNoPart() {
        LongTones x = Check.withChoir("o.-", 9, 1, 9, 1);
        x.addSolo(1, 2, 2);
        CHECK.due("on a rest", x.mark(0, 1, true), 1);
        CHECK.due("in a solo of another", x.mark(0, 2, true), 2);
        x.setPresent(0, false);
        CHECK.due("of the absent", x.mark(0, 0, true), 3);
        CHECK.due("away again", x.mark(0, 1, false), 2);
    }

    /** "This is an act." */
    static void promise11IsAnAct() {
        TWINS.undone("a mark", Recipes::roomy, x -> x.mark(0, 0, true));
        TWINS.undone("a mark away", Recipes::roomy, x -> x.mark(1, 1, false));
        TWINS.undone("a mark on a rest", Recipes::roomy, x -> x.mark(2, 2, true));
    }

    // ---- Promise 12

    /** "`reserve`: 1 to 8", "Returns the previous one". */
    static void promise12SetsReservesFrom1To8() {
        LongTones x = new LongTones();
        CHECK.due("at first", x.count(12), 2);
        int previous = 2;
        for (int reserve = 1; reserve <= 8; reserve++) {
            CHECK.due("setReserve(" + reserve + ")", x.setReserve(reserve), previous);
            CHECK.due("is " + reserve, x.count(12), reserve);
            previous = reserve;
        }
    }

    /** "BAD_VALUE." */
    static void promise12RefusesOtherReserves() {
        int[] wrong = {LEAST, -1, 0, 9, MOST};
        for (int reserve : wrong) {
            TWINS.refused("reserve " + reserve, Recipes::rich, x -> x.setReserve(reserve), LongTones.BAD_VALUE);
        }
    }

    static void promise12LeavesThePlan() {
        LongTones x = Recipes.rich();
        x.setReserve(8);
        CHECK.due("marks", x.count(6), 3);
    }

    /** "This is an act." */
    static void promise12IsAnAct() {
        TWINS.undone("another reserve", Recipes::roomy, x -> x.setReserve(8));
        TWINS.undone("the same reserve", Recipes::roomy, x -> x.setReserve(2));
    }

    // ---- Promise 13

    /** "NOT_POSSIBLE if nobody is present, or there are no beats." */
    static void promise13RefusesWithoutSingersOrBeats() {
        TWINS.refused("nothing", LongTones::new, LongTones::make, NOT_POSSIBLE);
        TWINS.refused("no singers", Recipes::withoutSingers, LongTones::make, NOT_POSSIBLE);
        TWINS.refused("no beats", Recipes::withoutBeats, LongTones::make, NOT_POSSIBLE);
        TWINS.refused("all are absent", Recipes::allAbsent, LongTones::make, NOT_POSSIBLE);
        CHECK.due("the marks stay then", Recipes.allAbsent().count(6), 1);
    }

    static void promise13OneSingerAndOneBeatAreEnough() {
        CHECK.due("a tone", Check.withChoir("-", 9, 1).make(), 0);
        CHECK.due("a rest", Check.withChoir(".", 9, 1).make(), 0);
        LongTones x = Recipes.allAbsent();
        x.setPresent(1, true);
        CHECK.due("one of two is present", x.make(), 0);
    }

    /** "Returns the number of marks". */
    static void promise13CountsTheMarks() {
        LongTones two = Check.withChoir("o5-5", 4, 1, 40, 1);
        CHECK.due("of two", two.make(), 2);
        CHECK.due("told again", two.count(6), 2);
        two.setLoudness(0, 1, 1);
        CHECK.due("none", two.make(), 0);
        CHECK.due("told again", two.count(6), 0);
    }

    /** Twelve singers and 96 beats: each turn takes six of them, who are whole again behind it. */
    static void promise13MakesTheGreatestPlan() {
        LongTones x = Check.withEqualSingers("o5x96", 12, 9, 10);
        CHECK.due("six in each beat", x.make(), 576);
        for (int beat = 0; beat < 96; beat++) {
            CHECK.due("who breathe in " + beat, x.beat(beat, 5), 6);
            CHECK.due("the first one in " + beat, x.does(0, beat), beat % 2 == 0 ? 1 : 0);
            CHECK.due("the last one in " + beat, x.does(11, beat), beat % 2 == 0 ? 0 : 1);
        }
    }

    static void promise13ReplacesThePlan() {
        LongTones x = Check.withChoir("o.-", 40, 1, 40, 1);
        for (int beat = 0; beat < 3; beat++) {
            x.mark(0, beat, true);
            x.mark(1, beat, true);
        }
        CHECK.due("nobody wants", x.make(), 0);
        CHECK.due("marks", x.count(6), 0);
    }

    static void promise13LeavesAllButThePlan() {
        LongTones x = Recipes.rich();
        x.make();
        CHECK.due("the reserve", x.count(12), 6);
        CHECK.due("the solo", x.solo(0, 2), 4);
        CHECK.due("who is present", x.count(4), 2);
        CHECK.due("beats", x.count(0), 7);
    }

    /** "This is an act." */
    static void promise13IsAnAct() {
        TWINS.undone("make", Recipes::roomy, LongTones::make);
        LongTones x = Check.withChoir("o", 9, 1);
        x.make();
        x.make();
        CHECK.due("the same plan again is recorded", x.count(14), 4);
    }
}
