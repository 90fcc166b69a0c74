/** Promises 7 to 10: singers, their presence, and solos. */
public final class SingersTest {
    private static final Check CHECK = new Check("SingersTest");

    public static void main(String[] args) {
        addingSingers();
        presence();
        addingSolos();
        orderOfSoloErrors();
        removingSolos();
        CHECK.end();
    }

    private static void addingSingers() {
        LongTones x = new LongTones();
        CHECK.due("breath 3", x.addSinger(3, 5), LongTones.BAD_VALUE);
        CHECK.due("breath 41", x.addSinger(41, 5), LongTones.BAD_VALUE);
        CHECK.due("recovery 0", x.addSinger(9, 0), LongTones.BAD_VALUE);
        CHECK.due("recovery 11", x.addSinger(9, 11), LongTones.BAD_VALUE);
        CHECK.due("nobody yet", x.count(3), 0);
        CHECK.due("no act", x.count(14), 0);
        CHECK.due("least", x.addSinger(4, 1), 0);
        CHECK.due("most", x.addSinger(40, 10), 1);
        CHECK.due("present at first", x.count(4), 2);
        CHECK.due("breath of 1", x.singer(1, 0), 40);
        CHECK.due("recovery of 1", x.singer(1, 1), 10);
        for (int singer = 2; singer < 12; singer++) {
            CHECK.due("singer", x.addSinger(4 + singer, 1), singer);
        }
        CHECK.due("the 13th", x.addSinger(9, 3), LongTones.FULL);
        CHECK.due("BAD_VALUE ahead of FULL", x.addSinger(3, 3), LongTones.BAD_VALUE);
        CHECK.due("singers", x.count(3), 12);
        CHECK.due("states", x.count(14), 5);
        CHECK.due("undo", x.undo(), 4);
        CHECK.due("singers behind undo", x.count(3), 11);
        CHECK.due("present behind undo", x.count(4), 11);
        CHECK.due("again", x.addSinger(33, 2), 11);
        CHECK.due("breath of 11", x.singer(11, 0), 33);
    }

    private static void presence() {
        LongTones x = Check.withScore("o");
        CHECK.due("nobody", x.setPresent(0, true), LongTones.UNKNOWN);
        x.addSinger(5, 1);
        x.addSinger(6, 1);
        CHECK.due("singer -1", x.setPresent(-1, false), LongTones.UNKNOWN);
        CHECK.due("singer 2", x.setPresent(2, false), LongTones.UNKNOWN);
        CHECK.due("so already", x.setPresent(1, true), LongTones.NONE);
        CHECK.due("states", x.count(14), 3);
        CHECK.due("absent", x.setPresent(1, false), 1);
        CHECK.due("absent already", x.setPresent(1, false), LongTones.NONE);
        CHECK.due("states", x.count(14), 4);
        CHECK.due("presence", x.singer(1, 2), 0);
        CHECK.due("sings", x.beat(0, 3), 1);
        CHECK.due("absent, too", x.setPresent(0, false), 0);
        CHECK.due("present again", x.setPresent(1, true), 1);
        x.undo();
        x.undo();
        CHECK.due("undone", x.count(4), 1);
        CHECK.due("who", x.singer(0, 2), 1);
    }

    private static void addingSolos() {
        LongTones x = Check.withScore("ox20");
        x.addSinger(10, 2);
        x.addSinger(10, 2);
        CHECK.due("the first", x.addSolo(1, 10, 12), 0);
        CHECK.due("behind it", x.addSolo(0, 15, 19), 1);
        CHECK.due("ahead of it", x.addSolo(0, 0, 3), 0);
        CHECK.due("between", x.addSolo(1, 13, 14), 2);
        CHECK.due("solos", x.count(5), 4);
        int[][] due = {{0, 0, 3}, {1, 10, 12}, {1, 13, 14}, {0, 15, 19}};
        for (int solo = 0; solo < 4; solo++) {
            for (int what = 0; what < 3; what++) {
                CHECK.due("solo " + solo + " " + what, x.solo(solo, what), due[solo][what]);
            }
        }
        CHECK.due("overlaps the end", x.addSolo(0, 3, 5), LongTones.NOT_POSSIBLE);
        CHECK.due("overlaps the start", x.addSolo(0, 9, 10), LongTones.NOT_POSSIBLE);
        CHECK.due("inside", x.addSolo(0, 11, 11), LongTones.NOT_POSSIBLE);
        CHECK.due("around", x.addSolo(0, 4, 19), LongTones.NOT_POSSIBLE);
        CHECK.due("fits", x.addSolo(0, 4, 9), 1);
        CHECK.due("states", x.count(14), 5);
        x.undo();
        CHECK.due("undone", x.count(5), 4);
        CHECK.due("an absent singer may have one", x.setPresent(1, false), 1);
        CHECK.due("solo of the absent", x.addSolo(1, 5, 5), 1);
        CHECK.due("nobody sings in it", x.beat(5, 3), 0);
    }

    private static void orderOfSoloErrors() {
        LongTones x = Check.withScore("ox20");
        x.addSinger(10, 2);
        CHECK.due("singer 1", x.addSolo(1, 0, 0), LongTones.UNKNOWN);
        CHECK.due("singer -1", x.addSolo(-1, 0, 0), LongTones.UNKNOWN);
        CHECK.due("from -1", x.addSolo(0, -1, 0), LongTones.UNKNOWN);
        CHECK.due("to 20", x.addSolo(0, 0, 20), LongTones.UNKNOWN);
        CHECK.due("from 20, to ahead of it", x.addSolo(0, 20, 19), LongTones.UNKNOWN);
        CHECK.due("singer ahead of BAD_VALUE", x.addSolo(1, 4, 3), LongTones.UNKNOWN);
        CHECK.due("to ahead of from", x.addSolo(0, 4, 3), LongTones.BAD_VALUE);
        for (int solo = 0; solo < 8; solo++) {
            CHECK.due("solo", x.addSolo(0, 2 * solo, 2 * solo), solo);
        }
        CHECK.due("a ninth", x.addSolo(0, 19, 19), LongTones.FULL);
        CHECK.due("NOT_POSSIBLE ahead of FULL", x.addSolo(0, 14, 15), LongTones.NOT_POSSIBLE);
        CHECK.due("BAD_VALUE ahead of NOT_POSSIBLE", x.addSolo(0, 14, 12), LongTones.BAD_VALUE);
        CHECK.due("solos", x.count(5), 8);
        CHECK.due("the last", x.solo(7, 1), 14);
    }

    private static void removingSolos() {
        LongTones x = Check.withScore("ox20");
        x.addSinger(10, 2);
        CHECK.due("no solo", x.removeSolo(0), LongTones.UNKNOWN);
        for (int solo = 0; solo < 8; solo++) {
            x.addSolo(0, 2 * solo, 2 * solo + 1);
        }
        CHECK.due("place -1", x.removeSolo(-1), LongTones.UNKNOWN);
        CHECK.due("place 8", x.removeSolo(8), LongTones.UNKNOWN);
        CHECK.due("the last", x.removeSolo(7), 7);
        CHECK.due("place 7 then", x.removeSolo(7), LongTones.UNKNOWN);
        CHECK.due("the first", x.removeSolo(0), 6);
        CHECK.due("the next one is told", x.solo(0, 1), 2);
        CHECK.due("one between", x.removeSolo(2), 5);
        CHECK.due("place 1", x.solo(1, 2), 5);
        CHECK.due("place 2", x.solo(2, 2), 9);
        CHECK.due("there is room again", x.addSolo(0, 19, 19), 5);
        CHECK.due("states", x.count(14), 5);
        x.undo();
        CHECK.due("undo", x.undo(), 3);
        CHECK.due("place 2 is back", x.solo(2, 1), 6);
    }
}
