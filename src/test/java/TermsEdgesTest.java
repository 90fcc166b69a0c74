/** The edges that "Terms" names; each test bears the name of its term, and tells the sentence it is for. */
public final class TermsEdgesTest {
    private static final Check CHECK = new Check("TermsEdgesTest");
    private static final int UNKNOWN = LongTones.UNKNOWN;
    private static final int BAD_VALUE = LongTones.BAD_VALUE;
    private static final int NONE = LongTones.NONE;

    public static void main(String[] args) throws ReflectiveOperationException {
        CHECK.runAll(TermsEdgesTest.class);
    }

    private static void firsts(String text, int... due) {
        LongTones x = Check.withScore(text);
        CHECK.due(text + ": beats", x.count(0), due.length);
        for (int beat = 0; beat < due.length; beat++) {
            CHECK.due(text + ": first of " + beat, x.beat(beat, 2), due[beat]);
        }
    }

    private static void syllables(String text, int number, int longest) {
        LongTones x = Check.withScore(text);
        CHECK.due(text + ": syllables", x.count(2), number);
        CHECK.due(text + ": longest", x.count(13), longest);
    }

    private static void doings(LongTones x, int singer, int... due) {
        for (int beat = 0; beat < due.length; beat++) {
            CHECK.due("does(" + singer + ", " + beat + ")", x.does(singer, beat), due[beat]);
        }
    }

    private static void lefts(LongTones x, int singer, int... due) {
        for (int beat = 0; beat < due.length; beat++) {
            CHECK.due("left(" + singer + ", " + beat + ")", x.left(singer, beat), due[beat]);
        }
    }

    /** Each fault as sort * 10000 + beat * 100 + singer, with 99 for nobody; and no more of them. */
    private static void faults(LongTones x, int... due) {
        CHECK.due("faults", x.count(7), due.length);
        for (int place = 0; place < due.length; place++) {
            CHECK.due("fault " + place, Check.faultAt(x, place), due[place]);
        }
        CHECK.due("no more faults", x.fault(due.length, 0), NONE);
    }

    // ---- Score

    /** "The score has up to 96 beats, numbered from 0." */
    static void scoreHas96BeatsAtMostFrom0() {
        LongTones x = Check.withScore("-x95");
        CHECK.due("beat 94 of 95", x.beat(94, 0), 1);
        CHECK.due("beat 95 of 95", x.beat(95, 0), UNKNOWN);
        CHECK.due("96 beats", Check.readText(x, "-x95o"), 96);
        CHECK.due("beat -1", x.beat(-1, 0), UNKNOWN);
        CHECK.due("beat 0", x.beat(0, 0), 1);
        CHECK.due("beat 95", x.beat(95, 0), 2);
        CHECK.due("beat 96", x.beat(96, 0), UNKNOWN);
        CHECK.due("97 beats", Check.readText(x, "-x95oo"), -105);
        CHECK.due("beats", x.count(0), 96);
    }

    /** "Each beat is of one of three sorts: 0 a rest, 1 a tone, 2 a beginning". */
    static void scoreHasThreeSorts() {
        LongTones x = Check.withScore(".-o");
        for (int sort = 0; sort <= 2; sort++) {
            CHECK.due("sort of " + sort, x.beat(sort, 0), sort);
        }
    }

    /** "A syllable is a beginning with the tones that follow it". */
    static void scoreSyllablesBeginWithBeginnings() {
        firsts("o", 0);
        firsts("oo", 0, 1);
        firsts("o-", 0, 0);
        firsts("o-o-", 0, 0, 2, 2);
        firsts("o--.o", 0, 0, 0, NONE, 4);
        syllables("ox96", 96, 1);
        syllables("o-x95", 1, 96);
    }

    /** "tones ahead of all beginnings, or behind a rest, are a syllable, too, from the first of them on". */
    static void scoreSyllablesOfTonesAlone() {
        firsts("-", 0);
        firsts("--o", 0, 0, 2);
        firsts(".-", NONE, 1);
        firsts(".--o-", NONE, 1, 1, 3, 3);
        firsts("o-.--", 0, 0, NONE, 3, 3);
        firsts("-..-", 0, NONE, NONE, 3);
        syllables("-x96", 1, 96);
        syllables("-.-.-", 3, 1);
    }

    static void scoreOfRestsHasNoSyllable() {
        firsts(".", NONE);
        syllables(".", 0, 0);
        syllables(".x96", 0, 0);
        CHECK.due("an empty score", new LongTones().count(2), 0);
    }

    static void scoreLongestSyllableMayStandAnywhere() {
        syllables("o--.o-", 2, 3);
        syllables("-o-.o--", 3, 3);
        syllables(".o-x4o-.-", 3, 5);
    }

    /** "Each beat has a loudness, 1 to 5 (of a rest it plays no part); at first 2." */
    static void scoreLoudnessIsAtFirst2() {
        LongTones x = Check.withScore(".-o-x3");
        for (int beat = 0; beat < 6; beat++) {
            CHECK.due("loudness of " + beat, x.beat(beat, 1), 2);
        }
    }

    static void scoreLoudnessOfRestsPlaysNoPart() {
        LongTones x = Check.withChoir("o2.-2", 4, 1, 40, 1);
        x.setLoudness(1, 1, 5);
        CHECK.due("the rest has it", x.beat(1, 1), 5);
        CHECK.due("nobody sings it", x.beat(1, 7), 0);
        lefts(x, 0, 2, 3, 1);
        doings(x, 0, 0, 3, 0);
        CHECK.due("it is not summed", x.make(), 0);
        LongTones y = Check.withChoir("o2.-3", 4, 1, 40, 1);
        y.setLoudness(1, 1, 1);
        CHECK.due("the beat behind it is", y.make(), 1);
    }

    // ---- Singers

    /** "There are up to 12 singers, numbered from 0." */
    static void singersAre12AtMostFrom0() {
        LongTones x = Recipes.twelveSingers();
        CHECK.due("singers", x.count(3), 12);
        CHECK.due("singer -1", x.singer(-1, 0), UNKNOWN);
        CHECK.due("singer 0", x.singer(0, 0), 9);
        CHECK.due("singer 11", x.singer(11, 0), 9);
        CHECK.due("singer 12", x.singer(12, 0), UNKNOWN);
        CHECK.due("all twelve sing", x.beat(0, 3), 12);
    }

    /** "a breath of 4 to 40, a recovery of 1 to 10, and is present (at first)". */
    static void singersHaveLeastAndMostBreathAndRecovery() {
        LongTones x = Check.withChoir("o5-5.", 4, 1, 40, 10, 4, 10, 40, 1);
        lefts(x, 0, 4, 4, 4);
        lefts(x, 1, 35, 30, 40);
        lefts(x, 2, 4, 4, 4);
        lefts(x, 3, 35, 30, 31);
        CHECK.due("present at first", x.count(4), 4);
    }

    /** "There can be a solo from one beat to another one: only its singer sings in these beats". */
    static void singersOfSolosSingAlone() {
        LongTones x = Check.withChoir("ox5", 20, 1, 20, 1);
        x.addSolo(1, 1, 3);
        doings(x, 0, 0, 3, 3, 3, 0);
        doings(x, 1, 0, 0, 0, 0, 0);
        CHECK.due("ahead of it", x.beat(0, 3), 2);
        CHECK.due("its first beat", x.beat(1, 3), 1);
        CHECK.due("its last beat", x.beat(3, 3), 1);
        CHECK.due("behind it", x.beat(4, 3), 2);
    }

    /** "solos are at most 8, do not overlap, and are told with the earliest one first". */
    static void singersSolosAre8AtMostInOrder() {
        LongTones x = Check.withChoir("ox9", 20, 1);
        int[] places = {0, 0, 0, 0, 0, 0, 0, 0};
        for (int i = 0; i < 8; i++) {
            CHECK.due("a solo ahead of all", x.addSolo(0, 7 - i, 7 - i), places[i]);
        }
        CHECK.due("a ninth", x.addSolo(0, 8, 8), LongTones.FULL);
        for (int solo = 0; solo < 8; solo++) {
            CHECK.due("solo " + solo, x.solo(solo, 1), solo);
        }
    }

    /** "In each beat that is not a rest, each singer who is present has to sing, but in the solos of others". */
    static void singersHaveToSing() {
        LongTones x = Check.withChoir("o.-", 20, 1, 20, 1);
        x.setPresent(1, false);
        doings(x, 0, 0, 3, 0);
        doings(x, 1, 3, 3, 3);
    }

    /** "Who does not have to sing (.. and when absent, also in an own solo) breathes as well." */
    static void singersWhoNeedNotSingBreathe() {
        LongTones x = Check.withChoir("o5-5.-1-1", 20, 3, 20, 3);
        x.addSolo(1, 3, 3);
        lefts(x, 0, 15, 10, 13, 16, 15);
        lefts(x, 1, 15, 10, 13, 12, 11);
        x.setPresent(1, false);
        doings(x, 1, 3, 3, 3, 3, 3);
        lefts(x, 1, 20, 20, 20, 20, 20);
        CHECK.due("nobody sings the solo then", x.beat(3, 3), 0);
    }

    /** "to breathe gives the recovery, up to the breath of the singer". */
    static void singersRecoverUpToTheirBreath() {
        LongTones x = Check.withChoir("o5...", 10, 4, 10, 5, 10, 6, 10, 1);
        lefts(x, 0, 5, 9, 10, 10);
        lefts(x, 1, 5, 10, 10, 10);
        lefts(x, 2, 5, 10, 10, 10);
        lefts(x, 3, 5, 6, 7, 8);
    }

    static void singersRecoverByMarksAndGasps() {
        LongTones x = Check.withChoir("o5-5-1-5", 9, 2);
        x.mark(0, 2, true);
        doings(x, 0, 0, 2, 1, 0);
        lefts(x, 0, 4, 6, 8, 3);
    }

    /** "To sing a beat costs its loudness"; "A singer has the whole breath ahead of the beat 0." */
    static void singersHaveTheWholeBreathAheadOfBeat0() {
        for (int loudness = 1; loudness <= 5; loudness++) {
            LongTones x = Check.withChoir("o" + loudness, 40, 10);
            lefts(x, 0, 40 - loudness);
        }
        lefts(Check.withChoir(".", 40, 10), 0, 40);
    }

    // ---- Plans

    /** "There is one plan; at first it has no marks." */
    static void plansHaveNoMarksAtFirst() {
        LongTones x = Check.withChoir("o-", 9, 1);
        CHECK.due("marks", x.count(6), 0);
        CHECK.due("of the singer", x.singer(0, 3), 0);
        doings(x, 0, 0, 0);
    }

    /** "marks on beats in which the singer does not have to sing play no part". */
    static void plansMarksOnRestsPlayNoPart() {
        LongTones x = Check.withChoir("o.-", 9, 1);
        x.mark(0, 1, true);
        CHECK.due("in a rest", x.does(0, 1), 3);
        CHECK.due("nobody breathes by it", x.beat(1, 5), 0);
        faults(x);
        CHECK.due("it is a mark", x.singer(0, 3), 1);
        x.setSort(1, 1);
        CHECK.due("it is there yet", x.does(0, 1), 1);
        faults(x, 199, 20100);
    }

    static void plansMarksInSolosOfOthersPlayNoPart() {
        LongTones x = Check.withChoir("o--", 9, 1, 9, 1);
        x.addSolo(1, 1, 1);
        x.mark(0, 1, true);
        CHECK.due("in a solo", x.does(0, 1), 3);
        CHECK.due("nobody breathes by it", x.beat(1, 5), 0);
        faults(x);
        CHECK.due("it is a mark", x.count(6), 1);
        x.removeSolo(0);
        CHECK.due("it is there yet", x.does(0, 1), 1);
        CHECK.due("and is breathed by", x.beat(1, 5), 1);
    }

    static void plansMarksOfTheAbsentPlayNoPart() {
        LongTones x = Check.withChoir("o--", 9, 1, 9, 1);
        x.addSolo(0, 1, 1);
        x.mark(0, 1, true);
        x.mark(0, 2, true);
        x.setPresent(0, false);
        doings(x, 0, 3, 3, 3);
        faults(x, 199);
        CHECK.due("they are marks", x.singer(0, 3), 2);
        x.setPresent(0, true);
        doings(x, 0, 0, 1, 1);
        faults(x, 199, 30100, 20200);
    }

    /** "A singer who would have to sing a beat without having its loudness left .. this is a gasp." */
    static void plansGaspOnlyWithLessThanTheLoudness() {
        for (int loudness = 1; loudness <= 5; loudness++) {
            LongTones enough = Check.withChoir("o5-" + loudness, 5 + loudness, 1);
            doings(enough, 0, 0, 0);
            lefts(enough, 0, loudness, 0);
            LongTones oneLess = Check.withChoir("o5-" + loudness, 4 + loudness, 1);
            doings(oneLess, 0, 0, 2);
            lefts(oneLess, 0, loudness - 1, loudness);
        }
        LongTones nothing = Check.withChoir("o4-1", 4, 1);
        doings(nothing, 0, 0, 2);
        lefts(nothing, 0, 0, 1);
    }

    /** "(without a mark on it)". */
    static void plansMarkedBeatsAreNoGasps() {
        LongTones x = Check.withChoir("o5-5", 4, 1);
        x.mark(0, 0, true);
        doings(x, 0, 1, 2);
        CHECK.due("gasps", x.count(9), 1);
    }

    // ---- Faults

    /** "0 silence (a beat that is not a rest in which nobody sings)". */
    static void faultsOfSilence() {
        faults(Check.withScore("o.-"), 99, 299);
        faults(Check.withScore("..."));
        faults(new LongTones());
        LongTones one = Check.withChoir("o.-", 9, 1);
        faults(one);
        one.mark(0, 0, true);
        faults(one, 99);
        one.setPresent(0, false);
        faults(one, 99, 299);
        LongTones two = Check.withChoir("o-", 9, 1, 9, 1);
        two.mark(0, 0, true);
        faults(two);
        two.mark(1, 0, true);
        faults(two, 99);
    }

    /** "1 a gasp". */
    static void faultsOfGasps() {
        faults(Check.withChoir("o5.o5", 4, 1, 5, 5), 10000, 10200);
        faults(Check.withChoir("o5", 4, 1, 4, 1), 99, 10000, 10001);
        LongTones solo = Check.withChoir("o5", 40, 1, 4, 1);
        solo.addSolo(1, 0, 0);
        faults(solo, 99, 10001);
    }

    /** "2 a breath inside a syllable: .. on a beat that is not the first one of its syllable". */
    static void faultsOfBreathsAreNotOnTheFirstBeat() {
        LongTones x = Check.withChoir("-o-.-", 30, 1);
        for (int beat = 0; beat < 5; beat++) {
            x.mark(0, beat, true);
        }
        faults(x, 99, 199, 299, 20200, 499);
        x.setSort(1, 1);
        x.setSort(3, 1);
        faults(x, 99, 199, 20100, 299, 20200, 399, 20300, 499, 20400);
    }

    /** "while fewer than two singers sing this beat". */
    static void faultsOfBreathsWithFewerThanTwoWhoSing() {
        LongTones x = Check.withEqualSingers("o-", 3, 9, 1);
        x.mark(2, 1, true);
        faults(x);
        x.mark(0, 1, true);
        faults(x, 20100, 20102);
        x.mark(1, 1, true);
        faults(x, 199, 20100, 20101, 20102);
        LongTones twelve = Check.withEqualSingers("o-", 12, 9, 1);
        for (int singer = 0; singer < 10; singer++) {
            twelve.mark(singer, 1, true);
        }
        faults(twelve);
        twelve.mark(11, 1, true);
        CHECK.due("eleven of twelve", twelve.count(10), 11);
    }

    static void faultsOfBreathsCountWhoSingsNotWhoIsPresent() {
        LongTones x = Check.withChoir("o5-5", 9, 1, 9, 1, 30, 1);
        x.mark(2, 1, true);
        faults(x, 199, 10100, 10101, 20102);
    }

    /** "3 a break of a solo: a mark .. of its singer on a beat of it that is not a rest". */
    static void faultsOfSolosFromTheFirstBeatToTheLast() {
        LongTones x = Check.withChoir("ox6", 30, 1, 30, 1, 30, 1);
        x.addSolo(1, 2, 3);
        for (int beat = 1; beat <= 4; beat++) {
            x.mark(1, beat, true);
        }
        x.mark(0, 2, true);
        faults(x, 299, 30201, 399, 30301);
    }

    /** "(this is no fault of the sort 2)". */
    static void faultsOfSolosAreNoBreathsInside() {
        LongTones x = Check.withChoir("o-.-", 30, 1, 30, 1);
        x.addSolo(0, 1, 2);
        x.mark(0, 1, true);
        x.mark(0, 2, true);
        faults(x, 199, 30100);
        CHECK.due("no breath inside", x.count(10), 0);
        x.removeSolo(0);
        faults(x, 20100);
    }

    /** "Faults of a plan, in this order of sorts"; "by ascending beats, of the same beat by sorts, ..". */
    static void faultsAreToldByBeatsThenSortsThenSingers() {
        LongTones x = Check.withChoir("o1-4-5", 30, 1, 4, 1, 30, 1, 4, 1);
        x.mark(2, 1, true);
        x.mark(0, 1, true);
        x.mark(0, 2, true);
        x.mark(2, 2, true);
        faults(x, 199, 10101, 10103, 20100, 20102, 299, 10201, 10203, 20200, 20202);
    }

    /** "A fault has a sort, a beat, and a singer (NONE for silence)." */
    static void faultsOfSilenceHaveNoSinger() {
        LongTones x = Check.withScore("o");
        CHECK.due("its sort", x.fault(0, 0), 0);
        CHECK.due("its beat", x.fault(0, 1), 0);
        CHECK.due("its singer", x.fault(0, 2), NONE);
    }

    static void faultsMayBeOfAllBeatsAndSingers() {
        LongTones x = Check.withEqualSingers("o5x96", 12, 4, 1);
        CHECK.due("96 silences and 96 * 12 gasps", x.count(7), 1248);
        CHECK.due("the last one", Check.faultAt(x, 1247), 10000 + 9500 + 11);
        CHECK.due("behind it", x.fault(1248, 0), NONE);
    }

    // ---- Making a plan

    private static int firstOfTwo(String text, int breath, int reserve) {
        LongTones x = Check.withChoir(text, breath, 1, 40, 1);
        x.setReserve(reserve);
        x.make();
        return x.does(0, 0);
    }

    /** "less than the sum of the loudness of this beat and of the next r - 1 beats that are not rests". */
    static void makingSumsAsManyBeatsAsTheReserve() {
        for (int reserve = 4; reserve <= 8; reserve++) {
            CHECK.due("as much, reserve " + reserve, firstOfTwo("o1x9", reserve, reserve), 0);
            CHECK.due("less, reserve " + reserve, firstOfTwo("o1x9", reserve, reserve + 1),
                reserve == 8 ? 0 : 1);
        }
        CHECK.due("one beat, less", firstOfTwo("o5-5", 4, 1), 1);
        CHECK.due("one beat, as much", firstOfTwo("o5-5", 5, 1), 0);
        CHECK.due("two beats, less", firstOfTwo("o5-5", 9, 2), 1);
        CHECK.due("two beats, as much", firstOfTwo("o5-5", 10, 2), 0);
        CHECK.due("eight beats, less", firstOfTwo("o5x9", 39, 8), 1);
        CHECK.due("eight beats, as much", firstOfTwo("o5x9", 40, 8), 0);
    }

    /** "(all that there are, if fewer; ..)". */
    static void makingSumsAllBeatsThatThereAre() {
        CHECK.due("seven beats, less", firstOfTwo("o1x7", 6, 8), 1);
        CHECK.due("seven beats, as much", firstOfTwo("o1x7", 7, 8), 0);
        CHECK.due("one beat, less", firstOfTwo("o5", 4, 8), 1);
        CHECK.due("one beat, as much", firstOfTwo("o5", 5, 8), 0);
        CHECK.due("and rests, as much", firstOfTwo("o5...", 5, 8), 0);
        LongTones x = Check.withChoir(".x94-5-5", 9, 1, 40, 1);
        CHECK.due("the last two of 96 beats", x.make(), 1);
        CHECK.due("beat 94", x.does(0, 94), 1);
        CHECK.due("beat 95", x.does(0, 95), 0);
    }

    /** "beats that are not rests (..; those in solos, too)". */
    static void makingSumsSolosButNoRests() {
        CHECK.due("rests between, as much", firstOfTwo("o3..-3", 6, 2), 0);
        CHECK.due("rests between, less", firstOfTwo("o3..-3", 5, 2), 1);
        for (int breath = 5; breath <= 6; breath++) {
            LongTones x = Check.withChoir("o3-3", breath, 1, 40, 1);
            x.addSolo(1, 1, 1);
            CHECK.due("a solo behind, breath " + breath, x.make(), breath == 5 ? 1 : 0);
        }
    }

    /** "with the reserve r (1 to 8, at first 2)". */
    static void makingHasTheReserve2AtFirst() {
        for (int breath = 5; breath <= 6; breath++) {
            LongTones x = Check.withChoir("o3-3-3", breath, 10, 40, 1);
            x.make();
            CHECK.due("breath " + breath, x.does(0, 0), breath == 5 ? 1 : 0);
        }
    }

    /** "put in the order of ascending breath that is left, of the same one by ascending numbers". */
    static void makingTakesTheShortestOfBreathFirst() {
        LongTones x = Check.withChoir("o5-5", 9, 1, 8, 1, 9, 1, 7, 1, 7, 1, 9, 1);
        x.make();
        int[] breathing = {0, 1, 0, 1, 1, 0};
        for (int singer = 0; singer < 6; singer++) {
            CHECK.due("singer " + singer, x.does(singer, 0), breathing[singer]);
        }
        LongTones same = Check.withEqualSingers("o5-5", 12, 9, 1);
        same.make();
        for (int singer = 0; singer < 12; singer++) {
            CHECK.due("singer " + singer + " of the same", same.does(singer, 0), singer < 6 ? 1 : 0);
        }
    }

    /** "ascending breath that is left": not of the whole breath. */
    static void makingLooksAtTheBreathThatIsLeft() {
        LongTones x = Check.withChoir("o5-5-5-5", 9, 1, 12, 1);
        x.addSolo(1, 0, 1);
        x.make();
        doings(x, 0, 3, 3, 0);
        doings(x, 1, 0, 0, 1);
    }

    /** "at most the half of those who are present (rounded down, but at least one)". */
    static void makingMarksTheHalfAtMost() {
        int[] due = {0, 1, 1, 2, 2, 3, 3, 4, 4, 5, 5, 6};
        for (int present = 1; present <= 12; present++) {
            LongTones x = Check.withEqualSingers("o5-5", present, 9, 1);
            x.make();
            CHECK.due("of " + present, x.beat(0, 5), due[present - 1]);
        }
    }

    static void makingCountsThePresentAlone() {
        LongTones x = Check.withEqualSingers("o5-5", 12, 9, 1);
        for (int singer = 0; singer < 7; singer++) {
            x.setPresent(singer, false);
        }
        x.make();
        CHECK.due("half of five", x.beat(0, 5), 2);
        CHECK.due("an absent one has no mark", x.singer(0, 3), 0);
        CHECK.due("the first one who is present", x.does(7, 0), 1);
        CHECK.due("the second one", x.does(8, 0), 1);
    }

    static void makingMarksNobodyWhoDoesNotWant() {
        LongTones x = Check.withChoir("o5-5", 40, 1, 40, 1, 9, 1, 40, 1, 10, 1, 40, 1);
        x.make();
        CHECK.due("one wants of six", x.beat(0, 5), 1);
        CHECK.due("it is this one", x.does(2, 0), 1);
        LongTones nobody = Check.withEqualSingers("o5-5", 12, 10, 1);
        nobody.make();
        CHECK.due("nobody wants", nobody.beat(0, 5), 0);
    }

    /** "only as many that at least one of those who are present sings the beat without a gasp". */
    static void makingLetsSomebodySing() {
        LongTones alone = Check.withChoir("o5-5-5", 9, 1);
        CHECK.due("one alone", alone.make(), 0);
        doings(alone, 0, 0, 2, 0);
        LongTones absent = Check.withChoir("o5-5", 9, 1, 40, 1);
        absent.setPresent(1, false);
        CHECK.due("the absent one does not sing", absent.make(), 0);
        LongTones able = Check.withChoir("o5", 4, 1, 5, 1);
        CHECK.due("one who has just enough", able.make(), 1);
        doings(able, 0, 1);
        doings(able, 1, 0);
    }

    /** "(if nobody could even without marks, nobody gets one)". */
    static void makingMarksNobodyWhereNobodyCouldSing() {
        LongTones x = Check.withEqualSingers("o5", 12, 4, 1);
        CHECK.due("nobody has enough", x.make(), 0);
        CHECK.due("all gasp", x.beat(0, 6), 12);
        LongTones absent = Check.withChoir("o5", 4, 1, 4, 1, 40, 1);
        absent.setPresent(2, false);
        CHECK.due("an absent one does not count", absent.make(), 0);
    }

    /** "for each beat that is not a rest and not in a solo". */
    static void makingMarksNoRestsAndSolos() {
        LongTones x = Check.withChoir("o5.-5-5-5-5", 4, 1, 40, 1);
        x.addSolo(1, 2, 3);
        x.make();
        doings(x, 0, 1, 3, 3, 3, 1, 1);
        CHECK.due("no more marks than these", x.count(6), 3);
        LongTones own = Check.withChoir("o5-5-5", 4, 1, 40, 1);
        own.addSolo(0, 0, 2);
        CHECK.due("not in an own solo", own.make(), 0);
        doings(own, 0, 2, 2, 2);
    }

    /** "all marks are taken away". */
    static void makingTakesAllOldMarksAway() {
        LongTones x = Check.withEqualSingers("o1.-1o1", 3, 40, 1);
        x.addSolo(0, 2, 2);
        x.mark(0, 0, true);
        x.mark(1, 1, true);
        x.mark(1, 2, true);
        x.mark(2, 3, true);
        x.setPresent(2, false);
        CHECK.due("nobody wants", x.make(), 0);
        CHECK.due("no marks", x.count(6), 0);
    }

    /** "The breath goes on by these marks (gasps, too)." */
    static void makingGoesOnWithMarksAndGasps() {
        LongTones x = Check.withChoir("o5-5-5-5", 6, 2, 6, 2, 40, 1);
        x.setReserve(1);
        CHECK.due("marks", x.make(), 2);
        doings(x, 0, 0, 1, 1, 0);
        doings(x, 1, 0, 2, 2, 0);
        lefts(x, 1, 1, 3, 5, 0);
    }

    static void makingGoesOnThroughRestsAndSolos() {
        LongTones x = Check.withChoir("o5-5.-5-5", 10, 5, 40, 1);
        x.addSolo(0, 1, 1);
        x.setReserve(1);
        CHECK.due("marks", x.make(), 1);
        doings(x, 0, 0, 0, 3, 0, 1);
        LongTones other = Check.withChoir("o5-5-5", 9, 1, 40, 1);
        other.addSolo(1, 1, 1);
        other.setReserve(1);
        CHECK.due("a solo of another gives breath", other.make(), 0);
        lefts(other, 0, 4, 5, 0);
    }

    static void makingPaysTheLoudnessOfEachBeat() {
        LongTones falling = Check.withChoir("o5-1-1-5", 12, 1, 40, 1);
        falling.setReserve(1);
        CHECK.due("5 + 1 + 1 of 12 leaves enough for 5", falling.make(), 0);
        lefts(falling, 0, 7, 6, 5, 0);
        LongTones rising = Check.withChoir("o1-5-5", 10, 1, 40, 1);
        rising.setReserve(1);
        CHECK.due("1 + 5 of 10 does not", rising.make(), 1);
        lefts(rising, 0, 9, 4, 5);
    }

    static void makingStartsWithTheWholeBreathEachTime() {
        LongTones x = Check.withEqualSingers("o-x9", 3, 7, 2);
        int marks = x.make();
        int doings = Check.doings(x, 0, 9);
        CHECK.due("the same plan again", x.make(), marks);
        CHECK.due("the same doings", Check.doings(x, 0, 9), doings);
    }

    // ---- Scores as texts

    private static void text(String text, int answer) {
        CHECK.due("read of \"" + text + "\"", Check.readText(new LongTones(), text), answer);
    }

    /** "a text of at most 60 characters, empty at first". */
    static void textsHave60CharactersAtMost() {
        LongTones x = new LongTones();
        CHECK.due("empty at first", x.count(15), 0);
        CHECK.due("it cannot be read", x.read(), -100);
        Check.typeAll(x, Check.times("o", 59));
        CHECK.due("59", x.count(15), 59);
        CHECK.due("the 60th", x.type('-'), 60);
        CHECK.due("the 61st", x.type('-'), LongTones.FULL);
        CHECK.due("60 items", x.read(), 60);
    }

    /** "\".\" a rest, \"-\" a tone, \"o\" a beginning". */
    static void textsBeginItemsWithThreeCharacters() {
        for (char sign = 0; sign < 256; sign++) {
            boolean allowed = sign == '.' || sign == '-' || sign == 'o';
            CHECK.due("character " + (int) sign + " alone", Check.readText(new LongTones(), "" + sign),
                allowed ? 1 : -100);
            boolean goesOn = allowed || sign >= '1' && sign <= '5';
            int due = goesOn ? sign >= '1' && sign <= '5' ? 1 : 2 : sign == 'x' ? -102 : -101;
            CHECK.due("behind a tone: " + (int) sign, Check.readText(new LongTones(), "-" + sign), due);
        }
        text("\u012e", -100);
        text("\uff2d", -100);
        text("\u006f\u012d", -101);
    }

    /** "possibly followed by a digit from 1 to 5 (its loudness, for \"-\" and \"o\" alone)". */
    static void textsHaveLoudnessesFrom1To5() {
        for (int digit = 0; digit <= 9; digit++) {
            boolean allowed = digit >= 1 && digit <= 5;
            text("-" + digit, allowed ? 1 : -101);
            text("o" + digit, allowed ? 1 : -101);
            text("." + digit, -101);
            text("-3" + digit, -102);
        }
        LongTones x = Check.withScore("-1o5.-");
        CHECK.due("1", x.beat(0, 1), 1);
        CHECK.due("5", x.beat(1, 1), 5);
        CHECK.due("none", x.beat(3, 1), 2);
    }

    /** "and then possibly by \"x\" and a number from 2 to 96 without zeros in front". */
    static void textsHaveNumbersFrom2To96() {
        for (int number = 0; number <= 130; number++) {
            int fault = number == 0 ? -102 : number == 1 ? -103 : number <= 96 ? 0 : number < 100 ? -103
                : -104;
            text("-x" + number, fault == 0 ? number : fault);
        }
        text(".x96", 96);
        text("o5x96", 96);
        text("-x02", -102);
        text("-x00", -102);
        text("-x", -102);
    }

    /** "possibly followed by a digit .., and then possibly by \"x\" and a number". */
    static void textsHaveTheLoudnessAheadOfTheNumber() {
        LongTones x = Check.withScore("o5x2-");
        CHECK.due("beats", x.count(0), 3);
        CHECK.due("both are loud", x.beat(0, 1) + x.beat(1, 1), 10);
        CHECK.due("both are beginnings", x.beat(0, 0) + x.beat(1, 0), 4);
        CHECK.due("the next one is not", x.beat(2, 1), 2);
        text("ox5", 5);
        text("ox2x2", -103);
        text("o5x2x", -104);
        text("xo", -100);
    }

    /** "(a further digit with which a number would be above 96, too; ..)". */
    static void textsFaultIsTheDigitThatMakesTheNumberTooGreat() {
        text("-x97", -103);
        text("-x99", -103);
        text("-x90", 90);
        text("-x100", -104);
        text("-x960", -104);
        text("-x110", -104);
        text("-x970", -103);
        text(".o-x97", -105);
    }

    /** "(..; behind \"x1\" there must be a digit)". */
    static void textsHaveADigitBehindX1() {
        text("-x1", -103);
        text("-x1o", -103);
        text("-x1x2", -103);
        text("-x1.", -103);
        for (int digit = 0; digit <= 9; digit++) {
            text("-x1" + digit, 10 + digit);
        }
    }

    /** "or its length if it ends too early (the empty text does)". */
    static void textsFaultIsTheLengthIfItEndsTooEarly() {
        text("", -100);
        text("ox", -102);
        text("o3x", -103);
        text(".x1", -103);
        text(".x2ox1", -106);
        text(Check.times("-", 58) + "x", -159);
        text(Check.times("-", 59) + "x", -160);
        text(Check.times("-", 57) + "x1", -159);
        text(Check.times("-", 58) + "x1", -160);
    }

    /** "the index, from 0, of the first character that is not allowed at its place". */
    static void textsFaultIsTheFirstOne() {
        text("?-?", -100);
        text("-?x?", -101);
        text(Check.times("-", 59) + "?", -159);
        text(Check.times("-", 58) + "??", -158);
    }

    /** "or, if there is no such fault, the index of the item with which there would be more than 96 beats". */
    static void textsFaultIsTheItemWithTooManyBeats() {
        text("-x96o", -104);
        text("-x95o", 96);
        text("-x95oo", -105);
        text("-x90o3x6", 96);
        text("-x90o3x7", -104);
        text("-x95ox2", -104);
        text("o-x96", -101);
        text("-x96oo", -104);
        text("-x96.5", -105);
        text("-x96ox", -106);
        text("-x96-x97", -107);
        text("-x48.x48", 96);
        text("-x48.x49", -104);
        text(Check.times(".x96", 15), -104);
        text("ox37" + Check.times(".", 56), 93);
        text("ox41" + Check.times(".", 56), -159);
    }

    // ---- History

    /** "A history of at most 5 states is kept; when one more is recorded, the oldest one is dropped". */
    static void historyKeeps5States() {
        LongTones x = new LongTones();
        int[] reserves = {3, 4, 5, 6, 7};
        for (int i = 0; i < 5; i++) {
            x.setReserve(reserves[i]);
            CHECK.due("states", x.count(14), i + 1);
        }
        LongTones y = new LongTones();
        for (int reserve : reserves) {
            y.setReserve(reserve);
        }
        CHECK.due("five: undo", undoAll(x), 5);
        CHECK.due("five: the first one is there", x.count(12), 2);
        y.setReserve(8);
        CHECK.due("six: states", y.count(14), 5);
        CHECK.due("six: undo", undoAll(y), 5);
        CHECK.due("six: the first one is dropped", y.count(12), 3);
    }

    private static int undoAll(LongTones x) {
        int undos = 0;
        while (undos < 100 && x.undo() != NONE) {
            undos++;
        }
        return undos;
    }

    /** "undo() removes and restores the latest one". */
    static void historyGivesTheLatestOne() {
        LongTones x = new LongTones();
        for (int reserve = 3; reserve <= 6; reserve++) {
            x.setReserve(reserve);
        }
        for (int left = 3; left >= 0; left--) {
            CHECK.due("states", x.undo(), left);
            CHECK.due("reserve", x.count(12), left + 2);
        }
    }

    static void historyGoesOnBehindUndo() {
        LongTones x = new LongTones();
        x.setReserve(3);
        x.setReserve(4);
        x.undo();
        x.setReserve(5);
        CHECK.due("states", x.count(14), 2);
        x.undo();
        CHECK.due("the state ahead of 5", x.count(12), 3);
        x.undo();
        CHECK.due("the state ahead of 3", x.count(12), 2);
    }

    /** "There are two slots for snapshots, empty at first." */
    static void historyHasTwoSlotsThatAreEmptyAtFirst() {
        LongTones x = new LongTones();
        CHECK.due("slot 0", x.restore(0), NONE);
        CHECK.due("slot 1", x.restore(1), NONE);
        CHECK.due("slot 2", x.restore(2), UNKNOWN);
        CHECK.due("slot -1", x.restore(-1), UNKNOWN);
        x.keep(0);
        CHECK.due("slot 1 is empty yet", x.restore(1), NONE);
    }

    /** "A state is everything but the text, the history and the snapshots." */
    static void historyStatesHaveNoTextHistoryOrSnapshots() {
        LongTones x = Check.withScore("o-");
        x.setReserve(3);
        x.keep(0);
        x.type('.');
        x.setReserve(4);
        x.keep(1);
        CHECK.due("undo", x.undo(), 2);
        CHECK.due("the text is as it was", x.count(15), 3);
        CHECK.due("slot 0 is as it was", x.restore(0), 2);
        CHECK.due("its reserve", x.count(12), 3);
        CHECK.due("slot 1 is as it was", x.restore(1), 2);
        CHECK.due("its reserve", x.count(12), 4);
        CHECK.due("the history grows by restoring", x.count(14), 4);
        CHECK.due("the text can be read", x.read(), 3);
    }

    // ---- Errors

    /** "NONE is returned only if no error applies." */
    static void errorsGoAheadOfNone() {
        LongTones x = new LongTones();
        CHECK.due("setPresent", x.setPresent(0, true), UNKNOWN);
        CHECK.due("mark", x.mark(0, 0, false), UNKNOWN);
        CHECK.due("restore", x.restore(2), UNKNOWN);
        CHECK.due("fault: what", x.fault(0, 3), BAD_VALUE);
        CHECK.due("fault: place", x.fault(-1, 0), BAD_VALUE);
        CHECK.due("breathFor", x.breathFor(0), UNKNOWN);
        CHECK.due("beat", x.beat(0, 2), UNKNOWN);
    }

    static void errorsHaveTheirNumbers() {
        CHECK.due("UNKNOWN", LongTones.UNKNOWN, -1);
        CHECK.due("BAD_VALUE", LongTones.BAD_VALUE, -2);
        CHECK.due("FULL", LongTones.FULL, -3);
        CHECK.due("NOT_POSSIBLE", LongTones.NOT_POSSIBLE, -4);
        CHECK.due("NONE", LongTones.NONE, -5);
    }
}
