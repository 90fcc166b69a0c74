/** What the tests share: comparing an answer with the due one, and making scores from texts. */
final class Check {
    private final String name;
    private int calls = 0;
    private int wrong = 0;

    Check(String name) {
        this.name = name;
    }

    void due(String call, int got, int want) {
        calls++;
        if (got != want) {
            wrong++;
            if (wrong <= 20) {
                System.out.println(name + ": " + call + " answered " + got + ", due is " + want);
            }
        }
    }

    void end() {
        System.out.println(name + ": " + calls + " answers, " + wrong + " wrong");
        if (wrong != 0 || calls == 0) {
            System.exit(1);
        }
    }

    static void typeAll(LongTones choir, String text) {
        for (int i = 0; i < text.length(); i++) {
            choir.type(text.charAt(i));
        }
    }

    static int readText(LongTones choir, String text) {
        choir.clearText();
        typeAll(choir, text);
        return choir.read();
    }

    /** A new object with the score of a text. */
    static LongTones withScore(String text) {
        LongTones choir = new LongTones();
        readText(choir, text);
        return choir;
    }

    /** What a singer does in the beats from 0 on, a digit a beat. */
    static int doings(LongTones choir, int singer, int beats) {
        int digits = 0;
        for (int beat = 0; beat < beats; beat++) {
            digits = digits * 10 + choir.does(singer, beat);
        }
        return digits;
    }

    /** Fault number place as sort * 10000 + beat * 100 + singer, with 99 for nobody. */
    static int faultAt(LongTones choir, int place) {
        int singer = choir.fault(place, 2);
        return choir.fault(place, 0) * 10000 + choir.fault(place, 1) * 100
            + (singer == LongTones.NONE ? 99 : singer);
    }
}
