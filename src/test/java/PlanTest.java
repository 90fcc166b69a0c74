/** Promises 11 to 13: marks, the reserve, and the making of a plan by turns. */
public final class PlanTest {
    private static final Check CHECK = new Check("PlanTest");

    public static void main(String[] args) {
        marking();
        settingTheReserve();
        whenNothingCanBeMade();
        turnsOfTwo();
        halfOfThem();
        somebodyGoesOnSinging();
        orderOfTurns();
        reserveAndRests();
        solosInThePlan();
        CHECK.end();
    }

    private static void marking() {
        LongTones x = Check.withScore("o-.");
        x.addSinger(10, 2);
        x.addSinger(10, 2);
        CHECK.due("singer -1", x.mark(-1, 0, true), LongTones.UNKNOWN);
        CHECK.due("singer 2", x.mark(2, 0, true), LongTones.UNKNOWN);
        CHECK.due("beat -1", x.mark(0, -1, true), LongTones.UNKNOWN);
        CHECK.due("beat 3", x.mark(0, 3, false), LongTones.UNKNOWN);
        CHECK.due("no mark there", x.mark(0, 1, false), LongTones.NONE);
        CHECK.due("states", x.count(14), 3);
        CHECK.due("first", x.mark(0, 1, true), 1);
        CHECK.due("again", x.mark(0, 1, true), LongTones.NONE);
        CHECK.due("states", x.count(14), 4);
        CHECK.due("on a rest", x.mark(0, 2, true), 2);
        CHECK.due("of another", x.mark(1, 2, true), 1);
        CHECK.due("all marks", x.count(6), 3);
        CHECK.due("away", x.mark(0, 1, false), 1);
        CHECK.due("all marks", x.count(6), 2);
        CHECK.due("undo", x.undo(), 4);
        CHECK.due("back", x.singer(0, 3), 2);
    }

    private static void settingTheReserve() {
        LongTones x = new LongTones();
        CHECK.due("0", x.setReserve(0), LongTones.BAD_VALUE);
        CHECK.due("9", x.setReserve(9), LongTones.BAD_VALUE);
        CHECK.due("no act", x.count(14), 0);
        CHECK.due("at first 2", x.setReserve(8), 2);
        CHECK.due("8", x.setReserve(1), 8);
        CHECK.due("the same", x.setReserve(1), 1);
        CHECK.due("acts", x.count(14), 3);
        x.undo();
        x.undo();
        CHECK.due("undone", x.count(12), 8);
    }

    private static void whenNothingCanBeMade() {
        LongTones x = new LongTones();
        x.addSinger(10, 2);
        CHECK.due("no beats", x.make(), LongTones.NOT_POSSIBLE);
        Check.readText(x, "o-x9");
        x.mark(0, 3, true);
        x.setPresent(0, false);
        CHECK.due("nobody is present", x.make(), LongTones.NOT_POSSIBLE);
        CHECK.due("the mark is there yet", x.count(6), 1);
        CHECK.due("states", x.count(14), 4);
        x.setPresent(0, true);
        CHECK.due("one alone gets none", x.make(), 0);
        CHECK.due("the mark is gone", x.count(6), 0);
        x.undo();
        CHECK.due("undone", x.count(6), 1);
        LongTones rests = Check.withScore(".x5");
        rests.addSinger(4, 1);
        rests.mark(0, 2, true);
        CHECK.due("rests alone", rests.make(), 0);
    }

    /** Breath 4, recovery 4, loudness 2: with less than 4 left they want to breathe, one at a time. */
    private static void turnsOfTwo() {
        LongTones x = Check.withScore("o-x4");
        x.addSinger(4, 4);
        x.addSinger(4, 4);
        CHECK.due("marks", x.make(), 3);
        CHECK.due("the first", Check.doings(x, 0, 5), 1010);
        CHECK.due("the other", Check.doings(x, 1, 5), 100);
        CHECK.due("an act", x.count(14), 4);
    }

    private static void halfOfThem() {
        LongTones five = Check.withScore("o5x2");
        for (int i = 0; i < 5; i++) {
            five.addSinger(9, 1);
        }
        CHECK.due("two of five, and again", five.make(), 4);
        CHECK.due("first beat", five.beat(0, 5), 2);
        CHECK.due("by numbers", five.does(0, 0) * 100 + five.does(1, 0) * 10 + five.does(2, 0), 110);
        LongTones three = Check.withScore("o5-5");
        for (int i = 0; i < 3; i++) {
            three.addSinger(9, 1);
        }
        three.make();
        CHECK.due("one of three", three.beat(0, 5), 1);
        LongTones absent = Check.withScore("o5-5");
        for (int i = 0; i < 4; i++) {
            absent.addSinger(9, 1);
        }
        absent.setPresent(0, false);
        absent.make();
        CHECK.due("half of the present", absent.beat(0, 5), 1);
        CHECK.due("the absent one has no mark", absent.singer(0, 3), 0);
        CHECK.due("the first present one has", absent.does(1, 0), 1);
    }

    private static void somebodyGoesOnSinging() {
        LongTones x = Check.withScore("o5-5-5");
        x.addSinger(4, 1);
        x.addSinger(4, 1);
        CHECK.due("nobody could: nobody gets one", x.make(), 0);
        CHECK.due("they gasp", x.count(9), 6);
        LongTones y = Check.withScore("o3-3-3-3");
        y.addSinger(5, 1);
        y.addSinger(5, 1);
        y.addSinger(4, 1);
        y.addSinger(4, 1);
        // Beat 0: all want to; 2 and 3 breathe. Beat 1: 0 and 1 have 2 left and gasp without a
        // mark; both get one, as 2 and 3 have 4. Beat 2: 2 and 3 have 1, 0 and 1 have 3.
        CHECK.due("marks", y.make(), 6);
        CHECK.due("0", Check.doings(y, 0, 4), 102);
        CHECK.due("2", Check.doings(y, 2, 4), 1012);
        LongTones z = Check.withScore("o4");
        z.setReserve(8);
        z.addSinger(5, 1);
        z.addSinger(4, 1);
        z.addSinger(4, 1);
        z.addSinger(4, 1);
        CHECK.due("nobody wants to", z.make(), 0);
        LongTones only = Check.withScore("o5-5");
        only.addSinger(5, 1);
        only.addSinger(4, 1);
        only.addSinger(4, 1);
        only.addSinger(4, 1);
        only.addSinger(4, 1);
        only.addSinger(4, 1);
        CHECK.due("three of six", only.make(), 3);
        CHECK.due("the only one who can goes on", only.does(0, 0), 0);
        CHECK.due("behind it nobody can", only.beat(1, 5), 0);
        LongTones two = Check.withScore("o5-5");
        two.addSinger(5, 1);
        two.addSinger(6, 1);
        two.setPresent(1, false);
        CHECK.due("the absent one does not count", two.make(), 0);
    }

    private static void orderOfTurns() {
        LongTones x = Check.withScore("o5-5-5-5");
        x.setReserve(4);
        x.addSinger(12, 2);
        x.addSinger(10, 2);
        x.addSinger(11, 2);
        x.addSinger(10, 2);
        x.make();
        CHECK.due("the shortest of breath", x.does(1, 0), 1);
        CHECK.due("of the same, by numbers", x.does(3, 0), 1);
        CHECK.due("the others sing", x.does(0, 0) + x.does(2, 0), 0);
    }

    private static void reserveAndRests() {
        LongTones x = Check.withScore("o2.x3-3-4");
        x.addSinger(5, 1);
        x.addSinger(9, 1);
        CHECK.due("2 + 3 is not above 5", x.make(), 1);
        CHECK.due("at 3 + 4 the first breathes", x.does(0, 4), 1);
        x.setReserve(3);
        x.make();
        CHECK.due("2 + 3 + 4 is above 5", x.does(0, 0), 1);
        CHECK.due("it is not above 9", x.does(1, 0), 0);
        x.setReserve(1);
        CHECK.due("reserve 1", x.make(), 1);
        CHECK.due("of the last beat alone", x.does(0, 5), 1);
        LongTones end = Check.withScore("-2x3");
        end.setReserve(8);
        end.addSinger(6, 1);
        end.addSinger(7, 1);
        CHECK.due("all that there are, if fewer", end.make(), 0);
    }

    private static void solosInThePlan() {
        LongTones x = Check.withScore("o3-3-3-3");
        x.setReserve(3);
        x.addSinger(8, 2);
        x.addSinger(20, 2);
        x.addSolo(1, 1, 2);
        x.mark(0, 1, true);
        x.mark(1, 2, true);
        x.make();
        CHECK.due("those in solos are summed, too", x.does(0, 0), 1);
        CHECK.due("no marks in solos", x.beat(1, 5) + x.beat(2, 5), 0);
        CHECK.due("old marks are gone in solos", x.singer(0, 3) + x.singer(1, 3), 1);
        CHECK.due("the soloist pays", x.left(1, 2), 11);
        CHECK.due("the other one breathes", x.left(0, 2), 8);
    }
}
