/** Objects that several tests look at; each method makes the same one each time. */
final class Recipes {
    private Recipes() {
    }

    /** Seven beats, three singers, a solo, marks, gasps, a full history, slot 0 kept and slot 1 empty. */
    static LongTones rich() {
        LongTones x = Check.withChoir("o3-4.-x3o", 6, 3, 12, 4, 5, 1);
        x.mark(1, 1, true);
        x.keep(0);
        x.setPresent(2, false);
        x.addSolo(1, 3, 4);
        x.mark(0, 4, true);
        x.mark(1, 6, true);
        x.setReserve(6);
        Check.typeAll(x, "x2.");
        return x;
    }

    /** As the rich one, but with two states alone in the history, so that there is room for more. */
    static LongTones roomy() {
        LongTones x = rich();
        x.undo();
        x.undo();
        x.undo();
        x.keep(1);
        return x;
    }

    /** Seven beats, nobody to sing them, and one state in the history. */
    static LongTones withoutSingers() {
        return Check.withScore("o3-4.-x3o");
    }

    /** Two singers without beats. */
    static LongTones withoutBeats() {
        LongTones x = new LongTones();
        x.addSinger(9, 3);
        x.addSinger(12, 4);
        return x;
    }

    /** Two singers who are both absent, with beats and marks. */
    static LongTones allAbsent() {
        LongTones x = Check.withChoir("o3-4-", 9, 3, 12, 4);
        x.mark(0, 1, true);
        x.setPresent(0, false);
        x.setPresent(1, false);
        return x;
    }

    static LongTones twelveSingers() {
        return Check.withEqualSingers("o-.", 12, 9, 3);
    }

    /** Eight solos, on the beats 0, 2, .., 14 of 16 beats. */
    static LongTones eightSolos() {
        LongTones x = Check.withChoir("ox16", 9, 3);
        for (int solo = 0; solo < 8; solo++) {
            x.addSolo(0, 2 * solo, 2 * solo);
        }
        return x;
    }

    /** A text of 60 characters that can be read: 33 beats, 6 of them rests. */
    static LongTones fullText() {
        LongTones x = new LongTones();
        Check.typeAll(x, Check.times("o1-2", 13) + "......-3");
        return x;
    }
}
