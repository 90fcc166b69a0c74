/** Promises 17 to 25: what is told of beats, singers, solos and faults. */
public final class ToldTest {
    private static final Check CHECK = new Check("ToldTest");

    public static void main(String[] args) {
        wrongArguments();
        beats();
        syllables();
        singers();
        breathing();
        solos();
        faults();
        faultsInSolos();
        silence();
        breathsThatWouldDo();
        counts();
        afterShorterScores();
        CHECK.end();
    }

    private static void wrongArguments() {
        LongTones x = Check.withScore("o-.");
        x.addSinger(10, 2);
        x.addSolo(0, 1, 1);
        CHECK.due("beat -1", x.beat(-1, 0), LongTones.UNKNOWN);
        CHECK.due("beat 3", x.beat(3, 0), LongTones.UNKNOWN);
        CHECK.due("UNKNOWN first", x.beat(3, 8), LongTones.UNKNOWN);
        CHECK.due("what -1", x.beat(0, -1), LongTones.BAD_VALUE);
        CHECK.due("what 8", x.beat(0, 8), LongTones.BAD_VALUE);
        CHECK.due("singer -1", x.singer(-1, 0), LongTones.UNKNOWN);
        CHECK.due("singer 1", x.singer(1, 0), LongTones.UNKNOWN);
        CHECK.due("UNKNOWN first", x.singer(1, 8), LongTones.UNKNOWN);
        CHECK.due("what -1", x.singer(0, -1), LongTones.BAD_VALUE);
        CHECK.due("what 8", x.singer(0, 8), LongTones.BAD_VALUE);
        int[][] pairs = {{-1, 0}, {1, 0}, {0, -1}, {0, 3}, {1, 3}};
        for (int[] pair : pairs) {
            CHECK.due("does", x.does(pair[0], pair[1]), LongTones.UNKNOWN);
            CHECK.due("left", x.left(pair[0], pair[1]), LongTones.UNKNOWN);
        }
        CHECK.due("solo -1", x.solo(-1, 0), LongTones.UNKNOWN);
        CHECK.due("solo 1", x.solo(1, 0), LongTones.UNKNOWN);
        CHECK.due("UNKNOWN first", x.solo(1, 3), LongTones.UNKNOWN);
        CHECK.due("what 3", x.solo(0, 3), LongTones.BAD_VALUE);
        CHECK.due("what -1", x.solo(0, -1), LongTones.BAD_VALUE);
        CHECK.due("place -1", x.fault(-1, 0), LongTones.BAD_VALUE);
        CHECK.due("what 3", x.fault(0, 3), LongTones.BAD_VALUE);
        CHECK.due("what -1", x.fault(0, -1), LongTones.BAD_VALUE);
        CHECK.due("BAD_VALUE first", x.fault(99, 3), LongTones.BAD_VALUE);
        CHECK.due("not so many", x.fault(0, 0), LongTones.NONE);
        CHECK.due("silentWithout -1", x.silentWithout(-1), LongTones.UNKNOWN);
        CHECK.due("silentWithout 1", x.silentWithout(1), LongTones.UNKNOWN);
        CHECK.due("breathFor -1", x.breathFor(-1), LongTones.UNKNOWN);
        CHECK.due("breathFor 1", x.breathFor(1), LongTones.UNKNOWN);
        CHECK.due("count -1", x.count(-1), LongTones.BAD_VALUE);
        CHECK.due("count 16", x.count(16), LongTones.BAD_VALUE);
        CHECK.due("telling is no act", x.count(14), 3);
    }

    /** Three singers: 0 sings the solo of beat 1, 1 has a mark on beat 2, 2 gasps in beat 2. */
    private static void beats() {
        LongTones x = Check.withScore("o4-3-4.");
        x.addSinger(20, 1);
        x.addSinger(20, 1);
        x.addSinger(4, 1);
        x.addSolo(0, 1, 1);
        x.mark(1, 2, true);
        x.mark(1, 3, true);
        x.mark(1, 1, true);
        int[][] due = {
            {2, 4, 0, 3, -5, 0, 0, 12},
            {1, 3, 0, 1, 0, 0, 0, 3},
            {1, 4, 0, 1, -5, 1, 1, 4},
            {0, 2, -5, 0, -5, 0, 0, 0}};
        for (int beat = 0; beat < 4; beat++) {
            for (int what = 0; what < 8; what++) {
                CHECK.due("beat(" + beat + ", " + what + ")", x.beat(beat, what), due[beat][what]);
            }
        }
        x.addSolo(1, 3, 3);
        CHECK.due("a rest may be in a solo", x.beat(3, 4), 1);
        CHECK.due("nobody sings it", x.beat(3, 3), 0);
    }

    private static void syllables() {
        LongTones x = Check.withScore("--o-o--.--.o.");
        int[] firsts = {0, 0, 2, 2, 4, 4, 4, -5, 8, 8, -5, 11, -5};
        for (int beat = 0; beat < firsts.length; beat++) {
            CHECK.due("first of " + beat, x.beat(beat, 2), firsts[beat]);
        }
        CHECK.due("syllables", x.count(2), 5);
        CHECK.due("longest", x.count(13), 3);
        CHECK.due("rests", x.count(1), 3);
        LongTones one = Check.withScore("-x96");
        CHECK.due("one alone", one.count(2), 1);
        CHECK.due("all of it", one.count(13), 96);
        CHECK.due("from its first beat on", one.beat(95, 2), 0);
        LongTones rests = Check.withScore(".x9");
        CHECK.due("none", rests.count(2), 0);
        CHECK.due("no longest", rests.count(13), 0);
    }

    private static void singers() {
        LongTones x = new LongTones();
        x.addSinger(7, 3);
        CHECK.due("least left without beats", x.singer(0, 6), 7);
        CHECK.due("longest row without beats", x.singer(0, 7), 0);
        Check.readText(x, "o-.o-x5");
        // Breath 7: 5 3 6 4 2 0, a gasp to 3, 1, a gasp to 4.
        x.mark(0, 2, true);
        int[] due = {7, 3, 1, 1, 6, 2, 0, 3};
        for (int what = 0; what < 8; what++) {
            CHECK.due("singer(0, " + what + ")", x.singer(0, what), due[what]);
        }
        LongTones y = Check.withScore("o5-1-1.");
        y.addSinger(6, 9);
        y.mark(0, 1, true);
        CHECK.due("least left behind the first beat", y.singer(0, 6), 1);
        y.mark(0, 1, false);
        CHECK.due("least left behind the second beat", y.singer(0, 6), 0);
        CHECK.due("a row from the first beat on", y.singer(0, 7), 2);
        y.setSort(0, 0);
        CHECK.due("a row behind a rest", y.singer(0, 7), 2);
        y.setSort(1, 0);
        CHECK.due("a row of one", y.singer(0, 7), 1);
        y.setSort(2, 0);
        CHECK.due("no row", y.singer(0, 7), 0);
        x.setPresent(0, false);
        int[] absent = {7, 3, 0, 1, 0, 0, 7, 0};
        for (int what = 0; what < 8; what++) {
            CHECK.due("absent: singer(0, " + what + ")", x.singer(0, what), absent[what]);
        }
    }

    private static void breathing() {
        LongTones x = Check.withScore("o5-5.-3-3-1");
        x.addSinger(9, 2);
        x.addSinger(6, 10);
        x.mark(0, 3, true);
        int[] doings = {0, 2, 3, 1, 0, 0};
        int[] lefts = {4, 6, 8, 9, 6, 5};
        for (int beat = 0; beat < 6; beat++) {
            CHECK.due("does(0, " + beat + ")", x.does(0, beat), doings[beat]);
            CHECK.due("left(0, " + beat + ")", x.left(0, beat), lefts[beat]);
        }
        CHECK.due("up to the breath", x.left(1, 1), 6);
        CHECK.due("exactly the loudness is enough", x.does(1, 0), 0);
        x.mark(1, 1, true);
        CHECK.due("a mark is no gasp", x.does(1, 1), 1);
        x.setPresent(1, false);
        CHECK.due("the absent one need not", x.does(1, 0), 3);
        CHECK.due("the breath stays whole", x.left(1, 0), 6);
    }

    private static void solos() {
        LongTones x = Check.withScore("o-x3.-");
        x.addSinger(10, 1);
        x.addSinger(10, 1);
        x.addSolo(1, 1, 4);
        x.mark(0, 2, true);
        CHECK.due("the other one", Check.doings(x, 0, 6), 33330);
        CHECK.due("the soloist", Check.doings(x, 1, 6), 30);
        CHECK.due("rests in solos give breath", x.left(1, 4), 3);
        CHECK.due("solos of others, too", x.left(0, 2), 10);
        x.setPresent(1, false);
        CHECK.due("an absent soloist", Check.doings(x, 1, 6), 333333);
        CHECK.due("the other one keeps silent", Check.doings(x, 0, 6), 33330);
        CHECK.due("silence", x.count(8), 3);
    }

    private static void faults() {
        LongTones x = Check.withScore("o-o5-.o");
        x.addSinger(5, 1);
        x.addSinger(5, 1);
        x.addSinger(20, 1);
        x.mark(0, 0, true);
        x.mark(1, 1, true);
        x.mark(2, 1, true);
        x.mark(2, 2, true);
        x.mark(1, 4, true);
        x.mark(0, 5, true);
        x.mark(2, 5, true);
        // Beat 1: 0 alone sings; beat 2: 0 has 3 left, 1 has 4 left; beat 3: all sing.
        int[] due = {20101, 20102, 299, 10200, 10201};
        CHECK.due("faults", x.count(7), due.length);
        for (int place = 0; place < due.length; place++) {
            CHECK.due("fault " + place, Check.faultAt(x, place), due[place]);
        }
        CHECK.due("one more", x.fault(due.length, 0), LongTones.NONE);
        CHECK.due("silences", x.count(8), 1);
        CHECK.due("gasps", x.count(9), 2);
        CHECK.due("inside", x.count(10), 2);
        CHECK.due("breaks", x.count(11), 0);
        CHECK.due("nobody's fault", x.fault(2, 2), LongTones.NONE);
        x.mark(2, 1, false);
        CHECK.due("two who sing are enough", x.count(10), 0);
        x.mark(0, 1, true);
        x.mark(2, 1, true);
        CHECK.due("silence ahead of breaths inside", Check.faultAt(x, 0), 199);
        CHECK.due("by singers", Check.faultAt(x, 3), 20102);
    }

    private static void faultsInSolos() {
        LongTones x = Check.withScore("o-x4.");
        x.addSinger(30, 1);
        x.addSinger(30, 1);
        x.addSolo(1, 0, 5);
        x.mark(1, 0, true);
        x.mark(1, 2, true);
        x.mark(1, 5, true);
        x.mark(0, 3, true);
        CHECK.due("faults", x.count(7), 4);
        CHECK.due("silence", Check.faultAt(x, 0), 99);
        CHECK.due("break on the first", Check.faultAt(x, 1), 30001);
        CHECK.due("silence", Check.faultAt(x, 2), 299);
        CHECK.due("break", Check.faultAt(x, 3), 30201);
        CHECK.due("no breath inside", x.count(10), 0);
        CHECK.due("breaks", x.count(11), 2);
        x.setPresent(1, false);
        CHECK.due("marks of the absent play no part", x.count(11), 0);
    }

    private static void silence() {
        LongTones x = Check.withScore("o-.-");
        CHECK.due("without singers", x.count(8), 3);
        x.addSinger(20, 1);
        CHECK.due("without the only one", x.silentWithout(0), 3);
        x.addSinger(20, 1);
        x.addSinger(20, 1);
        x.setPresent(2, false);
        x.mark(0, 1, true);
        x.addSolo(1, 3, 3);
        CHECK.due("without 0", x.silentWithout(0), 0);
        CHECK.due("without 1", x.silentWithout(1), 2);
        CHECK.due("without the absent one", x.silentWithout(2), 0);
        x.mark(1, 1, true);
        CHECK.due("what is silent stays so", x.silentWithout(2), 1);
        CHECK.due("without 0", x.silentWithout(0), 1);
        CHECK.due("nothing is changed", x.count(4), 2);
    }

    private static void breathsThatWouldDo() {
        LongTones x = Check.withScore("o5-5-5");
        x.addSinger(4, 1);
        CHECK.due("without a mark", x.breathFor(0), 15);
        CHECK.due("the breath stays", x.singer(0, 0), 4);
        x.mark(0, 1, true);
        CHECK.due("with one", x.breathFor(0), 9);
        x.mark(0, 0, true);
        x.mark(0, 2, true);
        CHECK.due("the least one", x.breathFor(0), 4);
        x.setPresent(0, false);
        CHECK.due("absent", x.breathFor(0), 4);
        LongTones y = Check.withScore("o5x8");
        y.addSinger(4, 10);
        CHECK.due("40", y.breathFor(0), 40);
        y = Check.withScore("o5x8o1");
        y.addSinger(40, 10);
        CHECK.due("above 40", y.breathFor(0), LongTones.NONE);
        y = new LongTones();
        y.addSinger(40, 10);
        CHECK.due("without beats", y.breathFor(0), 4);
    }

    private static void counts() {
        LongTones x = Check.withScore("o--.o5x2.x2");
        x.addSinger(4, 1);
        x.addSinger(30, 1);
        x.setPresent(1, false);
        x.addSolo(1, 1, 1);
        x.mark(0, 2, true);
        x.mark(1, 7, true);
        int[] due = {8, 3, 3, 2, 1, 1, 2, 7, 4, 2, 1, 0, 2, 3, 5, 11};
        for (int what = 0; what < due.length; what++) {
            CHECK.due("count(" + what + ")", x.count(what), due[what]);
        }
    }

    /** What an earlier, longer score or an earlier course has left must not be told. */
    private static void afterShorterScores() {
        LongTones x = Check.withScore("o5-5-5-5o5");
        x.addSinger(4, 1);
        CHECK.due("gasps", x.count(9), 5);
        Check.readText(x, ".o1");
        CHECK.due("gasps then", x.count(9), 0);
        CHECK.due("faults then", x.count(7), 0);
        CHECK.due("rests", x.count(1), 1);
        CHECK.due("syllables", x.count(2), 1);
        CHECK.due("longest", x.count(13), 1);
        CHECK.due("gasps of the beat", x.beat(1, 6), 0);
        CHECK.due("sung", x.singer(0, 4), 1);
        CHECK.due("silent without", x.silentWithout(0), 1);
        CHECK.due("no fault", x.fault(0, 0), LongTones.NONE);
        x.setPresent(0, false);
        CHECK.due("one silence", x.fault(0, 1), 1);
        CHECK.due("and no more", x.fault(1, 1), LongTones.NONE);
        Check.readText(x, "-o");
        CHECK.due("tones ahead of all beginnings", x.count(2), 2);
        x.setPresent(0, true);
        x.addSinger(4, 1);
        Check.readText(x, "o5-5-5");
        Check.readText(x, "o2");
        x.setReserve(8);
        CHECK.due("nothing is summed behind the end", x.make(), 0);
        Check.readText(x, ".-x3");
        CHECK.due("a rest ahead", x.count(1), 1);
        Check.readText(x, "-x3.");
        CHECK.due("a tone as the first beat", x.beat(0, 2), 0);
        CHECK.due("its syllable", x.count(13), 3);
    }
}
