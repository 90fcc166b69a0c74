/** The edges that the promises 1 to 6 name: a new object, the text, reading it, loudness and sorts. */
public final class ScoreEdgesTest {
    private static final Check CHECK = new Check("ScoreEdgesTest");
    private static final Twins TWINS = new Twins(CHECK);
    private static final int UNKNOWN = LongTones.UNKNOWN;
    private static final int BAD_VALUE = LongTones.BAD_VALUE;
    private static final int NONE = LongTones.NONE;
    private static final int LEAST = Integer.MIN_VALUE;
    private static final int MOST = Integer.MAX_VALUE;

    public static void main(String[] args) throws ReflectiveOperationException {
        CHECK.runAll(ScoreEdgesTest.class);
    }

    // ---- Promise 1

    /** "Creates an empty score without singers." */
    static void promise1CountsOfANewObject() {
        LongTones x = new LongTones();
        for (int what = 0; what <= 15; what++) {
            CHECK.due("count(" + what + ")", x.count(what), what == 12 ? 2 : 0);
        }
    }

    static void promise1NothingIsThere() {
        LongTones x = new LongTones();
        CHECK.due("beat", x.beat(0, 0), UNKNOWN);
        CHECK.due("singer", x.singer(0, 0), UNKNOWN);
        CHECK.due("does", x.does(0, 0), UNKNOWN);
        CHECK.due("left", x.left(0, 0), UNKNOWN);
        CHECK.due("solo", x.solo(0, 0), UNKNOWN);
        CHECK.due("fault", x.fault(0, 0), NONE);
        CHECK.due("silentWithout", x.silentWithout(0), UNKNOWN);
        CHECK.due("breathFor", x.breathFor(0), UNKNOWN);
        CHECK.due("setLoudness", x.setLoudness(0, 0, 1), UNKNOWN);
        CHECK.due("setSort", x.setSort(0, 0), UNKNOWN);
        CHECK.due("setPresent", x.setPresent(0, true), UNKNOWN);
        CHECK.due("addSolo", x.addSolo(0, 0, 0), UNKNOWN);
        CHECK.due("removeSolo", x.removeSolo(0), UNKNOWN);
        CHECK.due("mark", x.mark(0, 0, true), UNKNOWN);
        CHECK.due("make", x.make(), LongTones.NOT_POSSIBLE);
        CHECK.due("read", x.read(), -100);
        CHECK.due("clearText", x.clearText(), 0);
        CHECK.due("undo", x.undo(), NONE);
        CHECK.due("restore", x.restore(0), NONE);
    }

    static void promise1ObjectsAreApart() {
        LongTones x = new LongTones();
        LongTones y = Recipes.rich();
        CHECK.due("beats of the other one", y.count(0), 7);
        CHECK.due("beats", x.count(0), 0);
        CHECK.due("text", x.count(15), 0);
        CHECK.due("snapshot", x.restore(0), NONE);
    }

    // ---- Promise 2

    /** "Returns the length of the text then; FULL if it has 60 characters." */
    static void promise2TypesUpTo60Characters() {
        LongTones x = new LongTones();
        for (int length = 1; length <= 60; length++) {
            CHECK.due("type number " + length, x.type('o'), length);
        }
        CHECK.due("the 61st", x.type('o'), LongTones.FULL);
        CHECK.due("the length", x.count(15), 60);
        CHECK.due("the beats", x.read(), 60);
    }

    static void promise2FullChangesNothing() {
        CHECK.due("the full text can be read", Recipes.fullText().read(), 33);
        TWINS.refused("type at 60", Recipes::fullText, x -> x.type('o'), LongTones.FULL);
    }

    /** "`character`: any character". */
    static void promise2TakesAnyCharacter() {
        char[] characters = {0, 1, 127, 128, 255, 256, 0x7fff, 0x8000, 0xd800, 0xffff};
        for (char character : characters) {
            LongTones x = new LongTones();
            CHECK.due("type " + (int) character, x.type(character), 1);
            CHECK.due("read it", x.read(), -100);
            CHECK.due("the next one", x.type('o'), 2);
        }
    }

    static void promise2AppendsAtTheEnd() {
        LongTones x = Check.withScore("o.");
        CHECK.due("behind what was read", x.type('-'), 3);
        CHECK.due("beats", x.read(), 3);
        CHECK.due("the last one", x.beat(2, 0), 1);
    }

    static void promise2IsNoAct() {
        LongTones x = Check.withScore("o.");
        x.type('-');
        CHECK.due("states", x.count(14), 1);
        CHECK.due("the score stays", x.count(0), 2);
    }

    // ---- Promise 3

    /** "Returns the length that it had." */
    static void promise3TellsTheLength() {
        LongTones x = new LongTones();
        CHECK.due("empty", x.clearText(), 0);
        x.type('o');
        CHECK.due("one", x.clearText(), 1);
        CHECK.due("none again", x.clearText(), 0);
        Check.typeAll(x, Check.times("-", 60));
        CHECK.due("full", x.clearText(), 60);
        CHECK.due("the length", x.count(15), 0);
        CHECK.due("there is room again", x.type('o'), 1);
        CHECK.due("no old characters", x.read(), 1);
    }

    static void promise3IsNoAct() {
        LongTones x = Recipes.roomy();
        x.clearText();
        CHECK.due("states", x.count(14), 2);
        CHECK.due("the score stays", x.count(0), 7);
        TWINS.unchanged("an empty text stays empty", Recipes::withoutBeats, LongTones::clearText);
    }

    // ---- Promise 4

    /** "Returns the number of beats; -100 minus the fault of the text if it has one". */
    static void promise4ReadsFrom1To96Beats() {
        LongTones x = new LongTones();
        CHECK.due("1 beat", Check.readText(x, "."), 1);
        CHECK.due("96 beats", Check.readText(x, "-x48ox48"), 96);
        CHECK.due("97 beats", Check.readText(x, "-x48ox49"), -104);
        CHECK.due("the least fault", Check.readText(x, ""), -100);
        CHECK.due("the greatest fault", Check.readText(x, Check.times("o", 59) + "x"), -160);
        CHECK.due("what was read stays", x.count(0), 96);
    }

    static void promise4FaultsChangeNothing() {
        String[] texts = {"", "?", "-x", "-x1", "-x97", ".3", "-x96o", "o6"};
        int[] answers = {-100, -100, -102, -103, -103, -101, -104, -101};
        for (int i = 0; i < texts.length; i++) {
            String text = texts[i];
            Twins.Recipe recipe = () -> {
                LongTones x = Recipes.rich();
                x.clearText();
                Check.typeAll(x, text);
                return x;
            };
            TWINS.refused("read \"" + text + "\"", recipe, LongTones::read, answers[i]);
        }
    }

    /** "Makes the score that of the text, which stays; all solos and marks are gone then." */
    static void promise4DropsSolosAndMarks() {
        LongTones x = Recipes.rich();
        CHECK.due("there are marks", x.count(6), 3);
        CHECK.due("there is a solo", x.count(5), 1);
        CHECK.due("read", x.read(), 9);
        CHECK.due("marks", x.count(6), 0);
        CHECK.due("solos", x.count(5), 0);
        CHECK.due("the text stays", x.count(15), 12);
    }

    static void promise4LeavesSingersReserveAndSnapshots() {
        LongTones x = Recipes.rich();
        x.read();
        CHECK.due("singers", x.count(3), 3);
        CHECK.due("who is present", x.count(4), 2);
        CHECK.due("who is absent", x.singer(2, 2), 0);
        CHECK.due("a breath", x.singer(1, 0), 12);
        CHECK.due("the reserve", x.count(12), 6);
        CHECK.due("slot 0", x.restore(0), 7);
        CHECK.due("slot 1", x.restore(1), NONE);
    }

    /** Marks behind the end of a shorter score are gone, too, when a longer one follows. */
    static void promise4DropsMarksBehindAShorterScore() {
        LongTones x = Check.withChoir("-x96", 40, 10);
        x.mark(0, 95, true);
        x.mark(0, 0, true);
        x.addSolo(0, 90, 95);
        Check.readText(x, "o");
        CHECK.due("marks", x.singer(0, 3), 0);
        Check.readText(x, "-x96");
        CHECK.due("marks of the longer one", x.count(6), 0);
        CHECK.due("beat 95 can get one", x.mark(0, 95, true), 1);
        CHECK.due("its solo is gone", x.beat(95, 4), NONE);
    }

    /** Nothing that is told of a score comes from a longer one that was read ahead of it. */
    static void promise4ShorterScoresTellNothingOfLongerOnes() {
        String[] longer = {"ox96", "-x96", ".x96", "o5-5x95", "-5.x95", ".-5x95"};
        String[] shorter = {"o", "-", ".", "o.", ".o", "o5-5", "-3o"};
        for (String before : longer) {
            for (String text : shorter) {
                boolean same = toldBehind(text, before).equals(toldBehind(text, text));
                CHECK.due(text + " behind " + before, same ? 1 : 0, 1);
            }
        }
    }

    private static String toldBehind(String text, String before) {
        LongTones x = Check.withChoir(before, 4, 1, 9, 2);
        x.make();
        Check.readText(x, text);
        x.setReserve(8);
        StringBuilder told = new StringBuilder().append(x.make());
        for (int what = 0; what <= 15; what++) {
            told.append(' ').append(x.count(what));
        }
        for (int what = 0; what <= 7; what++) {
            told.append(' ').append(x.singer(0, what)).append(' ').append(x.singer(1, what));
            told.append(' ').append(x.beat(x.count(0) - 1, what));
        }
        for (int place = 0; place < 6; place++) {
            told.append(' ').append(x.fault(place, 0)).append(' ').append(x.fault(place, 1));
        }
        told.append(' ').append(x.silentWithout(1)).append(' ').append(x.breathFor(0));
        return told.toString();
    }

    static void promise4TakesTheLoudnessOfTheText() {
        LongTones x = Check.withScore("o.-");
        x.setLoudness(0, 2, 5);
        x.read();
        for (int beat = 0; beat < 3; beat++) {
            CHECK.due("loudness of " + beat, x.beat(beat, 1), 2);
        }
    }

    /** "This is an act." */
    static void promise4IsAnAct() {
        TWINS.undone("read", Recipes::roomy, LongTones::read);
        LongTones x = Check.withScore("o.");
        x.read();
        CHECK.due("the same score again is recorded", x.count(14), 2);
    }

    // ---- Promise 5

    private static LongTones allOfThem() {
        return Check.withScore("-x96");
    }

    /** "`from`: a beat", "`to`: a beat, not before the first one". */
    static void promise5SetsFromTheFirstToTheLastBeat() {
        LongTones x = allOfThem();
        CHECK.due("0 to 95", x.setLoudness(0, 95, 3), 96);
        CHECK.due("0 to 0", x.setLoudness(0, 0, 1), 1);
        CHECK.due("95 to 95", x.setLoudness(95, 95, 5), 1);
        CHECK.due("beat 0", x.beat(0, 1), 1);
        CHECK.due("beat 1", x.beat(1, 1), 3);
        CHECK.due("beat 94", x.beat(94, 1), 3);
        CHECK.due("beat 95", x.beat(95, 1), 5);
        CHECK.due("some of them", x.setLoudness(10, 12, 4), 3);
        int[] due = {3, 4, 4, 4, 3};
        for (int i = 0; i < due.length; i++) {
            CHECK.due("beat " + (9 + i), x.beat(9 + i, 1), due[i]);
        }
    }

    static void promise5RefusesWhatIsNoBeat() {
        int[][] wrong = {{-1, 0}, {-1, -1}, {0, -1}, {0, 96}, {96, 96}, {95, 96}, {96, 0}, {97, 95},
            {LEAST, 0}, {0, MOST}, {MOST, MOST}, {LEAST, MOST}};
        for (int[] beats : wrong) {
            CHECK.due(beats[0] + " to " + beats[1], allOfThem().setLoudness(beats[0], beats[1], 3), UNKNOWN);
        }
        int[][] ofSeven = {{-1, 0}, {0, 7}, {7, 7}, {7, 6}};
        for (int[] beats : ofSeven) {
            TWINS.refused(beats[0] + " to " + beats[1], Recipes::rich,
                x -> x.setLoudness(beats[0], beats[1], 3), UNKNOWN);
        }
        CHECK.due("no beats", new LongTones().setLoudness(0, 0, 3), UNKNOWN);
    }

    static void promise5RefusesToAheadOfFrom() {
        TWINS.refused("1 to 0", Recipes::rich, x -> x.setLoudness(1, 0, 3), BAD_VALUE);
        TWINS.refused("6 to 0", Recipes::rich, x -> x.setLoudness(6, 0, 3), BAD_VALUE);
        TWINS.refused("6 to 5", Recipes::rich, x -> x.setLoudness(6, 5, 3), BAD_VALUE);
    }

    /** "`loudness`: 1 to 5". */
    static void promise5SetsLoudnessesFrom1To5() {
        LongTones x = allOfThem();
        CHECK.due("1", x.setLoudness(0, 0, 1), 1);
        CHECK.due("is 1", x.beat(0, 1), 1);
        CHECK.due("5", x.setLoudness(0, 0, 5), 1);
        CHECK.due("is 5", x.beat(0, 1), 5);
        int[] wrong = {LEAST, -1, 0, 6, MOST};
        for (int loudness : wrong) {
            TWINS.refused("loudness " + loudness, Recipes::rich, y -> y.setLoudness(0, 6, loudness), BAD_VALUE);
        }
    }

    /** "UNKNOWN; BAD_VALUE." */
    static void promise5TellsUnknownAheadOfBadValue() {
        CHECK.due("from", Recipes.rich().setLoudness(-1, 6, 0), UNKNOWN);
        CHECK.due("to", Recipes.rich().setLoudness(0, 7, 6), UNKNOWN);
        CHECK.due("to ahead of from, and no beat", Recipes.rich().setLoudness(0, -1, 3), UNKNOWN);
        CHECK.due("from behind to, and no beat", Recipes.rich().setLoudness(7, 0, 3), UNKNOWN);
        CHECK.due("both values", Recipes.rich().setLoudness(3, 2, 0), BAD_VALUE);
    }

    /** "Returns the number of beats that are not rests among them". */
    static void promise5CountsWhatIsNoRest() {
        LongTones x = Check.withScore(".-.o.");
        CHECK.due("all", x.setLoudness(0, 4, 3), 2);
        CHECK.due("a rest alone", x.setLoudness(0, 0, 4), 0);
        CHECK.due("the last rest alone", x.setLoudness(4, 4, 5), 0);
        CHECK.due("from a rest to a tone", x.setLoudness(0, 1, 1), 1);
        CHECK.due("rests have it, too", x.beat(4, 1), 5);
        CHECK.due("all of them are recorded", x.count(14), 5);
    }

    /** "This is an act." */
    static void promise5IsAnAct() {
        TWINS.undone("other loudness", Recipes::roomy, x -> x.setLoudness(0, 6, 5));
        TWINS.undone("the same loudness", Recipes::roomy, x -> x.setLoudness(0, 0, 3));
        TWINS.undone("of a rest", Recipes::roomy, x -> x.setLoudness(2, 2, 5));
    }

    // ---- Promise 6

    /** "`beat`: a beat". */
    static void promise6SetsTheFirstAndTheLastBeat() {
        LongTones x = allOfThem();
        CHECK.due("beat 0", x.setSort(0, 2), 1);
        CHECK.due("beat 95", x.setSort(95, 0), 1);
        CHECK.due("it is set", x.beat(0, 0), 2);
        CHECK.due("the next one is not", x.beat(1, 0), 1);
        CHECK.due("the last one is set", x.beat(95, 0), 0);
        CHECK.due("the one ahead of it is not", x.beat(94, 0), 1);
        int[] wrong = {LEAST, -1, 7, 8, 95, 96, MOST};
        for (int beat : wrong) {
            TWINS.refused("beat " + beat, Recipes::rich, y -> y.setSort(beat, 1), UNKNOWN);
        }
    }

    /** "`sort`: 0 to 2". */
    static void promise6SetsSortsFrom0To2() {
        LongTones x = Check.withScore("o");
        CHECK.due("0", x.setSort(0, 0), 2);
        CHECK.due("1", x.setSort(0, 1), 0);
        CHECK.due("2", x.setSort(0, 2), 1);
        CHECK.due("2 again", x.setSort(0, 2), 2);
        int[] wrong = {LEAST, -1, 3, MOST};
        for (int sort : wrong) {
            TWINS.refused("sort " + sort, Recipes::rich, y -> y.setSort(0, sort), BAD_VALUE);
        }
    }

    /** "UNKNOWN; BAD_VALUE." */
    static void promise6TellsUnknownAheadOfBadValue() {
        CHECK.due("beat 7, sort 3", Recipes.rich().setSort(7, 3), UNKNOWN);
        CHECK.due("beat -1, sort -1", Recipes.rich().setSort(-1, -1), UNKNOWN);
    }

    /** "Sets the sort of a beat; its loudness stays." */
    static void promise6LeavesTheLoudness() {
        LongTones x = Check.withScore("o5-");
        for (int sort = 0; sort <= 2; sort++) {
            x.setSort(0, sort);
            CHECK.due("loudness with the sort " + sort, x.beat(0, 1), 5);
        }
    }

    static void promise6LeavesMarksAndSolos() {
        LongTones x = Recipes.rich();
        x.setSort(4, 0);
        CHECK.due("marks", x.count(6), 3);
        CHECK.due("the solo", x.solo(0, 2), 4);
        CHECK.due("beats", x.count(0), 7);
    }

    /** "This is an act." */
    static void promise6IsAnAct() {
        TWINS.undone("another sort", Recipes::roomy, x -> x.setSort(2, 2));
        TWINS.undone("the same sort", Recipes::roomy, x -> x.setSort(0, 2));
    }
}
