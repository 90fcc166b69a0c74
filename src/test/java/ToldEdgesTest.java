/** The edges that the promises 17 to 25 name: what is told of beats, singers, solos and faults. */
public final class ToldEdgesTest {
    private static final Check CHECK = new Check("ToldEdgesTest");
    private static final Twins TWINS = new Twins(CHECK);
    private static final int UNKNOWN = LongTones.UNKNOWN;
    private static final int BAD_VALUE = LongTones.BAD_VALUE;
    private static final int NONE = LongTones.NONE;
    private static final int LEAST = Integer.MIN_VALUE;
    private static final int MOST = Integer.MAX_VALUE;
    /** What is no beat and no singer of the rich one. */
    private static final int[] NO_BEATS = {LEAST, -1, 7, 8, 95, 96, MOST};
    private static final int[] NO_SINGERS = {LEAST, -1, 3, 4, 11, 12, 31, 32, MOST};

    public static void main(String[] args) throws ReflectiveOperationException {
        CHECK.runAll(ToldEdgesTest.class);
    }

    // ---- Promise 17

    private static void beats(LongTones x, int what, int... due) {
        for (int beat = 0; beat < due.length; beat++) {
            CHECK.due("beat(" + beat + ", " + what + ")", x.beat(beat, what), due[beat]);
        }
    }

    /** "Returns the property; UNKNOWN; BAD_VALUE." */
    static void promise17RefusesUnknownBeatsThenOtherProperties() {
        for (int beat : NO_BEATS) {
            for (int what = -1; what <= 8; what++) {
                CHECK.due("beat(" + beat + ", " + what + ")", Recipes.rich().beat(beat, what), UNKNOWN);
            }
        }
        int[] wrong = {LEAST, -1, 8, 9, MOST};
        for (int what : wrong) {
            TWINS.refused("beat(0, " + what + ")", Recipes::rich, x -> x.beat(0, what), BAD_VALUE);
            TWINS.refused("beat(6, " + what + ")", Recipes::rich, x -> x.beat(6, what), BAD_VALUE);
        }
        TWINS.refused("beat(7, 8)", Recipes::rich, x -> x.beat(7, 8), UNKNOWN);
        TWINS.refused("beat(-1, 0)", Recipes::rich, x -> x.beat(-1, 0), UNKNOWN);
        CHECK.due("no beats", new LongTones().beat(0, 8), UNKNOWN);
    }

    /** "0 for its sort, 1 for its loudness". */
    static void promise17TellsSortsAndLoudnesses() {
        LongTones x = Check.withScore("o1-5.o5-1");
        beats(x, 0, 2, 1, 0, 2, 1);
        beats(x, 1, 1, 5, 2, 5, 1);
        LongTones last = Check.withScore(".x95o4");
        CHECK.due("sort of 95", last.beat(95, 0), 2);
        CHECK.due("loudness of 95", last.beat(95, 1), 4);
    }

    /** "2 for the first beat of its syllable (NONE for a rest)". */
    static void promise17TellsFirstBeatsOrNone() {
        beats(Check.withScore("-o--..--o"), 2, 0, 1, 1, 1, NONE, NONE, 6, 6, 8);
        CHECK.due("the longest one", Check.withScore("-x96").beat(95, 2), 0);
        CHECK.due("behind many rests", Check.withScore(".x95-").beat(95, 2), 95);
    }

    /** "3 for the number of singers who sing it". */
    static void promise17CountsFrom0To12WhoSing() {
        beats(Check.withScore("o.-"), 3, 0, 0, 0);
        LongTones x = Check.withEqualSingers("o.--", 12, 40, 1);
        beats(x, 3, 12, 0, 12, 12);
        x.mark(0, 2, true);
        x.addSolo(11, 3, 3);
        x.setPresent(5, false);
        beats(x, 3, 11, 0, 10, 1);
    }

    /** "4 for the place of the solo in which it is (NONE if there is none)". */
    static void promise17TellsThePlaceOfTheSoloOrNone() {
        LongTones x = Check.withChoir("o-..-o-", 9, 1);
        beats(x, 4, NONE, NONE, NONE, NONE, NONE, NONE, NONE);
        x.addSolo(0, 3, 4);
        x.addSolo(0, 1, 1);
        beats(x, 4, NONE, 0, NONE, 1, 1, NONE, NONE);
        LongTones eight = Recipes.eightSolos();
        CHECK.due("the last one", eight.beat(14, 4), 7);
        CHECK.due("behind it", eight.beat(15, 4), NONE);
    }

    /** "5 for the number of those who breathe by a mark that plays a part". */
    static void promise17CountsMarksThatPlayAPart() {
        LongTones x = Check.withEqualSingers("o.--", 12, 40, 1);
        x.addSolo(3, 3, 3);
        beats(x, 5, 0, 0, 0, 0);
        for (int singer = 0; singer < 12; singer++) {
            for (int beat = 0; beat < 4; beat++) {
                x.mark(singer, beat, true);
            }
        }
        beats(x, 5, 12, 0, 12, 1);
        x.setPresent(3, false);
        beats(x, 5, 11, 0, 11, 0);
    }

    /** "6 for the number of gasps". */
    static void promise17CountsFrom0To12Gasps() {
        LongTones x = Check.withEqualSingers("o4-1.-5", 12, 4, 1);
        beats(x, 6, 0, 12, 0, 12);
        x.mark(0, 1, true);
        x.setPresent(1, false);
        x.addSolo(2, 3, 3);
        beats(x, 6, 0, 10, 0, 1);
    }

    /** "7 for the sum of the loudness of all who sing it". */
    static void promise17SumsFrom0To60() {
        LongTones x = Check.withEqualSingers("o5.-1-3", 12, 40, 1);
        x.setLoudness(1, 1, 5);
        beats(x, 7, 60, 0, 12, 36);
        x.addSolo(4, 3, 3);
        x.mark(0, 2, true);
        beats(x, 7, 60, 0, 11, 3);
        beats(Check.withScore("o5"), 7, 0);
    }

    // ---- Promise 18

    private static void properties(LongTones x, int singer, int... due) {
        for (int what = 0; what < due.length; what++) {
            CHECK.due("singer(" + singer + ", " + what + ")", x.singer(singer, what), due[what]);
        }
    }

    /** "Returns the property; UNKNOWN; BAD_VALUE." */
    static void promise18RefusesUnknownSingersThenOtherProperties() {
        for (int singer : NO_SINGERS) {
            for (int what = -1; what <= 8; what++) {
                CHECK.due("singer(" + singer + ", " + what + ")", Recipes.rich().singer(singer, what), UNKNOWN);
            }
        }
        int[] wrong = {LEAST, -1, 8, 9, MOST};
        for (int what : wrong) {
            TWINS.refused("singer(0, " + what + ")", Recipes::rich, x -> x.singer(0, what), BAD_VALUE);
            TWINS.refused("singer(2, " + what + ")", Recipes::rich, x -> x.singer(2, what), BAD_VALUE);
        }
        TWINS.refused("singer(3, 8)", Recipes::rich, x -> x.singer(3, 8), UNKNOWN);
        CHECK.due("singer 12 of twelve", Recipes.twelveSingers().singer(12, 0), UNKNOWN);
        CHECK.due("nobody", new LongTones().singer(0, 8), UNKNOWN);
    }

    /** "6 for the least breath that is left behind a beat (the whole breath without beats)". */
    static void promise18TellsTheWholeBreathWithoutBeats() {
        properties(Recipes.withoutBeats(), 0, 9, 3, 1, 0, 0, 0, 9, 0);
        properties(Recipes.withoutBeats(), 1, 12, 4, 1, 0, 0, 0, 12, 0);
    }

    static void promise18TellsTheLeastBreathOfAnyBeat() {
        CHECK.due("behind the first beat", Check.withChoir("o5.-1", 6, 5).singer(0, 6), 1);
        CHECK.due("behind the last beat", Check.withChoir("o1-5", 6, 5).singer(0, 6), 0);
        CHECK.due("between", Check.withChoir("o1-4..", 6, 5).singer(0, 6), 1);
        CHECK.due("rests alone", Check.withChoir("...", 6, 5).singer(0, 6), 6);
        LongTones absent = Check.withChoir("o5-1", 6, 5);
        absent.setPresent(0, false);
        CHECK.due("absent", absent.singer(0, 6), 6);
        CHECK.due("one gasp", Check.withChoir("o5", 4, 10).singer(0, 6), 4);
    }

    /** "3 for the number of marks": of those that play no part, too. */
    static void promise18CountsAllMarks() {
        LongTones x = Recipes.rich();
        properties(x, 0, 6, 3, 1, 1);
        properties(x, 1, 12, 4, 1, 2);
        properties(x, 2, 5, 1, 0, 0);
        x.mark(2, 2, true);
        properties(x, 2, 5, 1, 0, 1);
    }

    /** "4 for the beats that the singer sings, 5 for the gasps". */
    static void promise18CountsFrom0To96BeatsAndGasps() {
        properties(Check.withChoir("o5x96", 4, 10), 0, 4, 10, 1, 0, 0, 96, 4, 0);
        properties(Check.withChoir("o1x40", 40, 1), 0, 40, 1, 1, 0, 40, 0, 0, 40);
        properties(Check.withChoir("o1x41", 40, 1), 0, 40, 1, 1, 0, 40, 1, 0, 40);
        properties(Check.withChoir(".x96", 40, 1), 0, 40, 1, 1, 0, 0, 0, 40, 0);
    }

    /** "7 for the longest row of beats that the singer sings one behind the other". */
    static void promise18TellsTheLongestRow() {
        CHECK.due("at the start", Check.withChoir("ooo.oo", 40, 1).singer(0, 7), 3);
        CHECK.due("at the end", Check.withChoir("oo.ooo", 40, 1).singer(0, 7), 3);
        CHECK.due("between", Check.withChoir("o.ooo.oo", 40, 1).singer(0, 7), 3);
        LongTones x = Check.withChoir("ox7", 40, 1, 40, 1);
        CHECK.due("all", x.singer(0, 7), 7);
        x.mark(0, 2, true);
        CHECK.due("a mark ends it", x.singer(0, 7), 4);
        x.addSolo(1, 5, 5);
        CHECK.due("a solo of another ends it", x.singer(0, 7), 2);
        CHECK.due("a gasp ends it", Check.withChoir("o2-2-2-2", 4, 2).singer(0, 7), 2);
    }

    // ---- Promises 19 and 20

    private interface Asked {
        int of(LongTones choir, int singer, int beat);
    }

    private static void refusesUnknown(Twins.Recipe recipe, Asked asked, int singer, int beat) {
        TWINS.refused(singer + ", " + beat, recipe, x -> asked.of(x, singer, beat), UNKNOWN);
    }

    private static void refusesUnknown(Asked asked) {
        for (int singer : NO_SINGERS) {
            refusesUnknown(Recipes::rich, asked, singer, 0);
        }
        for (int beat : NO_BEATS) {
            refusesUnknown(Recipes::rich, asked, 0, beat);
        }
        refusesUnknown(Recipes::rich, asked, 3, 7);
        refusesUnknown(Recipes::withoutSingers, asked, 0, 0);
        refusesUnknown(Recipes::withoutBeats, asked, 0, 0);
        refusesUnknown(Recipes::twelveSingers, asked, 12, 0);
    }

    /** "UNKNOWN." */
    static void promise19RefusesUnknownSingersAndBeats() {
        refusesUnknown(LongTones::does);
    }

    /** "UNKNOWN." */
    static void promise20RefusesUnknownSingersAndBeats() {
        refusesUnknown(LongTones::left);
    }

    /** "0 sings, 1 breathes by a mark, 2 gasps, 3 does not have to sing". */
    static void promise19TellsAllFour() {
        LongTones x = Check.withChoir("o4-1-1.", 4, 1);
        x.mark(0, 2, true);
        x.mark(0, 3, true);
        int[] due = {0, 2, 1, 3};
        for (int beat = 0; beat < due.length; beat++) {
            CHECK.due("does(0, " + beat + ")", x.does(0, beat), due[beat]);
        }
    }

    static void promise19TellsTheLastSingerAndBeat() {
        LongTones x = Check.withEqualSingers("-1x96", 12, 40, 1);
        CHECK.due("beat 39", x.does(11, 39), 0);
        CHECK.due("beat 40", x.does(11, 40), 2);
        CHECK.due("beat 95", x.does(11, 95), 0);
        CHECK.due("left behind beat 95", x.left(11, 95), 0);
    }

    /** "Returns the breath that is left behind the beat". */
    static void promise20TellsFrom0ToTheWholeBreath() {
        LongTones x = Check.withChoir("o5-5..", 10, 10);
        int[] due = {5, 0, 10, 10};
        for (int beat = 0; beat < due.length; beat++) {
            CHECK.due("left(0, " + beat + ")", x.left(0, beat), due[beat]);
        }
        LongTones absent = Check.withChoir("o5-5", 10, 10);
        absent.setPresent(0, false);
        CHECK.due("the absent", absent.left(0, 1), 10);
    }

    // ---- Promise 21

    /** "Returns the property; UNKNOWN; BAD_VALUE." */
    static void promise21RefusesUnknownPlacesThenOtherProperties() {
        int[] places = {LEAST, -1, 1, 2, 8, MOST};
        for (int solo : places) {
            for (int what = -1; what <= 3; what++) {
                int property = what;
                TWINS.refused("solo(" + solo + ", " + what + ")", Recipes::rich, x -> x.solo(solo, property),
                    UNKNOWN);
            }
        }
        int[] wrong = {LEAST, -1, 3, 4, MOST};
        for (int what : wrong) {
            TWINS.refused("solo(0, " + what + ")", Recipes::rich, x -> x.solo(0, what), BAD_VALUE);
        }
        CHECK.due("place 8 of 8", Recipes.eightSolos().solo(8, 0), UNKNOWN);
        CHECK.due("no solos", new LongTones().solo(0, 0), UNKNOWN);
    }

    /** "0 for its singer, 1 for its first beat, 2 for its last one". */
    static void promise21TellsTheFirstAndTheLastSolo() {
        LongTones x = Recipes.eightSolos();
        x.addSinger(9, 1);
        x.removeSolo(7);
        x.addSolo(1, 13, 15);
        int[] due = {1, 13, 15};
        for (int what = 0; what < 3; what++) {
            CHECK.due("solo(7, " + what + ")", x.solo(7, what), due[what]);
            CHECK.due("solo(0, " + what + ")", x.solo(0, what), 0);
        }
    }

    // ---- Promise 22

    /** "BAD_VALUE if place is negative or what is out of range". */
    static void promise22RefusesNegativePlacesAndOtherProperties() {
        int[] places = {LEAST, -2, -1};
        for (int place : places) {
            for (int what = -1; what <= 3; what++) {
                int property = what;
                TWINS.refused("fault(" + place + ", " + what + ")", Recipes::rich, x -> x.fault(place, property),
                    BAD_VALUE);
            }
        }
        int[] wrong = {LEAST, -1, 3, MOST};
        for (int what : wrong) {
            TWINS.refused("fault(0, " + what + ")", Recipes::rich, x -> x.fault(0, what), BAD_VALUE);
            CHECK.due("ahead of NONE", new LongTones().fault(0, what), BAD_VALUE);
            CHECK.due("far ahead of NONE", new LongTones().fault(MOST, what), BAD_VALUE);
        }
    }

    /** "NONE if there are not so many." */
    static void promise22TellsNoneBehindTheLastFault() {
        LongTones x = Check.withScore("oo");
        for (int what = 0; what < 3; what++) {
            int property = what;
            CHECK.due("the last one", x.fault(1, what), what == 0 ? 0 : what == 1 ? 1 : NONE);
            CHECK.due("behind it", x.fault(2, what), NONE);
            CHECK.due("far behind it", x.fault(MOST, what), NONE);
            TWINS.refused("no faults", LongTones::new, y -> y.fault(0, property), NONE);
        }
        CHECK.due("no beats", Recipes.withoutBeats().fault(0, 0), NONE);
    }

    /** "Faults are told by ascending beats, of the same beat by sorts, then by ascending singers." */
    static void promise22TellsFaultsInTheirOrder() {
        LongTones x = Check.withChoir("o2-5o1-5", 30, 1, 6, 1, 6, 1, 30, 1);
        x.addSolo(3, 3, 3);
        x.mark(0, 1, true);
        x.mark(3, 1, true);
        x.mark(3, 3, true);
        int[] due = {199, 10101, 10102, 20100, 20103, 399, 30303};
        CHECK.due("faults", x.count(7), due.length);
        for (int place = 0; place < due.length; place++) {
            CHECK.due("fault " + place, Check.faultAt(x, place), due[place]);
        }
    }

    static void promise22TellsSingersUpToTheTwelfth() {
        LongTones x = Check.withEqualSingers("o5", 12, 4, 1);
        for (int place = 1; place <= 12; place++) {
            CHECK.due("fault " + place, Check.faultAt(x, place), 10000 + place - 1);
        }
        CHECK.due("silence ahead of them", Check.faultAt(x, 0), 99);
        CHECK.due("behind them", x.fault(13, 0), NONE);
    }

    // ---- Promise 23

    /** "Returns the number; UNKNOWN." */
    static void promise23RefusesUnknownSingers() {
        for (int singer : NO_SINGERS) {
            TWINS.refused("silentWithout(" + singer + ")", Recipes::rich, x -> x.silentWithout(singer), UNKNOWN);
        }
        CHECK.due("the 13th", Recipes.twelveSingers().silentWithout(12), UNKNOWN);
        TWINS.refused("nobody", Recipes::withoutSingers, x -> x.silentWithout(0), UNKNOWN);
    }

    /** "Tells how many beats would be silent". */
    static void promise23CountsFrom0To96Beats() {
        CHECK.due("no beats", Recipes.withoutBeats().silentWithout(0), 0);
        CHECK.due("rests", Check.withChoir(".x96", 9, 1).silentWithout(0), 0);
        CHECK.due("all", Check.withChoir("-x96", 9, 1).silentWithout(0), 96);
        LongTones x = Check.withEqualSingers("-1x20.", 12, 40, 1);
        CHECK.due("one of twelve", x.silentWithout(11), 0);
        for (int singer = 0; singer < 11; singer++) {
            x.mark(singer, 3, true);
        }
        CHECK.due("the last of twelve", x.silentWithout(11), 1);
        CHECK.due("another one", x.silentWithout(0), 0);
    }

    /** "by the plan as it is": silent beats count, and who gasps does not help. */
    static void promise23CountsWhatIsSilentAnyway() {
        LongTones x = Check.withChoir("o5-5-5", 40, 1, 6, 1);
        CHECK.due("without the strong one", x.silentWithout(0), 2);
        CHECK.due("without the weak one", x.silentWithout(1), 0);
        x.mark(0, 0, true);
        x.mark(1, 0, true);
        CHECK.due("a silent beat", x.silentWithout(1), 1);
    }

    /** "(as if the singer was absent)": the own solo is nobody's then. */
    static void promise23CountsOwnSolos() {
        LongTones x = Check.withChoir("o-.-", 40, 1, 40, 1);
        x.addSolo(0, 1, 2);
        CHECK.due("without the soloist", x.silentWithout(0), 1);
        CHECK.due("without the other one", x.silentWithout(1), 0);
        x.setPresent(0, false);
        CHECK.due("the soloist is absent", x.silentWithout(0), 1);
        CHECK.due("without both", x.silentWithout(1), 3);
        CHECK.due("the answer is the silence then", x.silentWithout(0), x.count(8));
    }

    static void promise23ChangesNothing() {
        TWINS.unchanged("silentWithout(0)", Recipes::rich, x -> x.silentWithout(0));
        TWINS.unchanged("silentWithout(2)", Recipes::rich, x -> x.silentWithout(2));
    }

    // ---- Promise 24

    /** "Returns the breath, 4 to 40; UNKNOWN; NONE ..". */
    static void promise24RefusesUnknownSingers() {
        for (int singer : NO_SINGERS) {
            TWINS.refused("breathFor(" + singer + ")", Recipes::rich, x -> x.breathFor(singer), UNKNOWN);
        }
        TWINS.refused("nobody", Recipes::withoutSingers, x -> x.breathFor(0), UNKNOWN);
        CHECK.due("the 13th", Recipes.twelveSingers().breathFor(12), UNKNOWN);
    }

    static void promise24TellsTheLeastBreathFrom4To40() {
        CHECK.due("no beats", Recipes.withoutBeats().breathFor(0), 4);
        CHECK.due("1 would do", Check.withChoir("o1", 40, 1).breathFor(0), 4);
        CHECK.due("4 is enough", Check.withChoir("o4", 40, 1).breathFor(0), 4);
        CHECK.due("5 is enough", Check.withChoir("o5", 4, 1).breathFor(0), 5);
        CHECK.due("39", Check.withChoir("o5x7-4", 4, 1).breathFor(0), 39);
        CHECK.due("40", Check.withChoir("o5x8", 4, 1).breathFor(0), 40);
        TWINS.refused("41", () -> Check.withChoir("o5x8o1", 40, 10), x -> x.breathFor(0), NONE);
        CHECK.due("far too much", Check.withChoir("o5x96", 40, 10).breathFor(0), NONE);
    }

    /** "by the plan as it is". */
    static void promise24FollowsMarksSolosAndRests() {
        LongTones x = Check.withChoir("o5-5-5-5", 4, 3, 40, 1);
        CHECK.due("all four", x.breathFor(0), 20);
        x.mark(0, 2, true);
        CHECK.due("with a mark", x.breathFor(0), 12);
        x.addSolo(1, 1, 1);
        CHECK.due("with a solo of another, too", x.breathFor(0), 5);
        CHECK.due("with a rest", Check.withChoir("o5-5.-5", 4, 3).breathFor(0), 12);
        x.setPresent(0, false);
        CHECK.due("absent", x.breathFor(0), 4);
        TWINS.unchanged("breathFor(0)", Recipes::rich, y -> y.breathFor(0));
    }

    // ---- Promise 25

    /** "Returns the number; BAD_VALUE." */
    static void promise25RefusesOtherNumbers() {
        int[] wrong = {LEAST, -1, 16, 17, MOST};
        for (int what : wrong) {
            TWINS.refused("count(" + what + ")", Recipes::rich, x -> x.count(what), BAD_VALUE);
        }
    }

    private static void counts(LongTones x, int... due) {
        for (int what = 0; what < due.length; what++) {
            CHECK.due("count(" + what + ")", x.count(what), due[what]);
        }
    }

    static void promise25CountsTheLeast() {
        counts(new LongTones(), 0, 0, 0, 0, 0, 0, 0, 0, 0, 0, 0, 0, 2, 0, 0, 0);
    }

    /** As much of all as one object can have. */
    static void promise25CountsTheMost() {
        LongTones beginnings = Check.withEqualSingers("o5x96", 12, 4, 1);
        for (int solo = 0; solo < 8; solo++) {
            beginnings.addSolo(0, 2 * solo, 2 * solo + 1);
        }
        beginnings.setReserve(8);
        Check.typeAll(beginnings, Check.times(".", 56));
        // In the 16 beats of solos one singer gasps, in the 80 others all twelve do.
        counts(beginnings, 96, 0, 96, 12, 12, 8, 0, 1072, 96, 976, 0, 0, 8, 1, 5, 60);
        counts(Check.withScore("-x96"), 96, 0, 1, 0, 0, 0, 0, 96, 96, 0, 0, 0, 2, 96, 1, 4);
        counts(Check.withScore(".x96"), 96, 96, 0, 0, 0, 0, 0, 0, 0, 0, 0, 0, 2, 0, 1, 4);
    }

    static void promise25CountsEachSortOfFaults() {
        LongTones x = Check.withChoir("o5-1-1-1.", 30, 1, 5, 1);
        x.addSolo(0, 3, 4);
        x.mark(0, 1, true);
        x.mark(1, 2, true);
        x.mark(0, 3, true);
        x.mark(0, 4, true);
        // Beat 1: silence, a gasp, a breath inside; beat 2: a breath inside; beat 3: silence, a break.
        counts(x, 5, 1, 1, 2, 2, 1, 4, 6, 2, 1, 2, 1);
    }

    /** "2 for syllables", "13 for the longest syllable (in beats, 0 if there is none)". */
    static void promise25CountsSyllables() {
        String[] texts = {".", "o", "-", "oo", "-o", "o.-", "o-.--o---"};
        int[] syllables = {0, 1, 1, 2, 2, 2, 3};
        int[] longest = {0, 1, 1, 1, 1, 1, 4};
        for (int i = 0; i < texts.length; i++) {
            CHECK.due(texts[i] + ": syllables", Check.withScore(texts[i]).count(2), syllables[i]);
            CHECK.due(texts[i] + ": longest", Check.withScore(texts[i]).count(13), longest[i]);
        }
    }

    static void promise25CountsMarksThatPlayNoPart() {
        LongTones x = Check.withChoir("o.", 9, 1, 9, 1);
        x.mark(0, 1, true);
        x.mark(1, 0, true);
        x.setPresent(1, false);
        CHECK.due("marks", x.count(6), 2);
        CHECK.due("who are present", x.count(4), 1);
        CHECK.due("singers", x.count(3), 2);
    }

    /** What is told is told without changing anything. */
    static void promises17To25ChangeNothing() {
        for (int what = 0; what <= 15; what++) {
            int property = what;
            TWINS.unchanged("count(" + what + ")", Recipes::rich, x -> x.count(property));
        }
        for (int what = 0; what <= 7; what++) {
            int property = what;
            TWINS.unchanged("beat(1, " + what + ")", Recipes::rich, x -> x.beat(1, property));
            TWINS.unchanged("singer(1, " + what + ")", Recipes::rich, x -> x.singer(1, property));
        }
        TWINS.unchanged("does", Recipes::rich, x -> x.does(1, 1));
        TWINS.unchanged("left", Recipes::rich, x -> x.left(1, 1));
        TWINS.unchanged("solo", Recipes::rich, x -> x.solo(0, 0));
        TWINS.unchanged("fault", Recipes::rich, x -> x.fault(0, 0));
        TWINS.refused("fault behind the last one", Recipes::rich, x -> x.fault(99, 0), NONE);
    }
}
