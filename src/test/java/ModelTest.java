/** Long runs of calls, wild arguments among them, each answer compared with that of the model. */
public final class ModelTest {
    private static final Check CHECK = new Check("ModelTest");
    private static final int RUNS = 600;
    private static final int CALLS = 512;
    /** An act may be a whole text: twelve items of five characters, and two calls more. */
    private static final int MOST_CALLS_OF_AN_ACT = 62;
    private static final int[] WILD = {Integer.MIN_VALUE, -1000, -2, -1, 12, 13, 59, 60, 95, 96, 97,
        1000, Integer.MAX_VALUE - 1, Integer.MAX_VALUE};

    private final LongTones choir = new LongTones();
    private final Model model = new Model();
    private final int run;
    private long seed;
    private int call = 0;

    private ModelTest(int run) {
        this.run = run;
        seed = run * 7919L + 17;
    }

    public static void main(String[] args) {
        for (int run = 0; run < RUNS; run++) {
            new ModelTest(run).play();
        }
        CHECK.end();
    }

    private void play() {
        int singers = 1 + below(12);
        typeScore();
        for (int i = 0; i < singers; i++) {
            addSinger();
        }
        while (call < CALLS) {
            if (below(3) > 0 || call > CALLS - MOST_CALLS_OF_AN_ACT) {
                tell();
            } else {
                act();
            }
        }
    }

    /** A series of numbers that is the same in every run of the test. */
    private int below(int bound) {
        seed = seed * 6364136223846793005L + 1442695040888963407L;
        return (int) Math.floorMod(seed >>> 33, (long) bound);
    }

    private int from(int least, int most) {
        return below(25) == 0 ? WILD[below(WILD.length)] : least - 1 + below(most - least + 3);
    }

    private int someBeat() {
        return below(25) == 0 ? WILD[below(WILD.length)] : below(Math.max(1, model.count(0) + 1));
    }

    private int someSinger() {
        return below(25) == 0 ? WILD[below(WILD.length)] : below(Math.max(1, model.count(3) + 1));
    }

    private void due(String name, int got, int want) {
        call++;
        CHECK.due("run " + run + ", call " + call + ": " + name, got, want);
    }

    private void typeOne(char character) {
        due("type", choir.type(character), model.type(character));
    }

    private void typeScore() {
        due("clearText", choir.clearText(), model.clearText());
        int items = below(12);
        for (int i = 0; i <= items; i++) {
            int sort = below(8);
            typeOne(sort == 0 ? '.' : sort < 6 ? '-' : 'o');
            if (sort != 0 && below(3) == 0) {
                typeOne((char) ('1' + below(5)));
            }
            if (below(3) == 0) {
                typeOne('x');
                typeOne((char) ('2' + below(8)));
            }
            if (below(60) == 0) {
                typeOne(".-ox0123456789 xo".charAt(below(17)));
            }
        }
        due("read", choir.read(), model.read());
    }

    private void typeNoise() {
        int length = below(8);
        for (int i = 0; i < length; i++) {
            typeOne(below(30) == 0 ? (char) below(65536) : ".-oxx0123456789".charAt(below(15)));
        }
        due("read", choir.read(), model.read());
        if (below(3) == 0) {
            due("clearText", choir.clearText(), model.clearText());
        }
    }

    private void addSinger() {
        int breath = below(3) == 0 ? from(4, 40) : from(4, 15);
        int recovery = from(1, below(2) == 0 ? 10 : 4);
        due("addSinger", choir.addSinger(breath, recovery), model.addSinger(breath, recovery));
    }

    private void act() {
        int singer = someSinger();
        int beat = someBeat();
        boolean yes = below(3) > 0;
        switch (below(24)) {
            case 0: typeScore(); break;
            case 1: typeNoise(); break;
            case 2: addSinger(); break;
            case 3: case 4:
                int to = below(3) == 0 ? someBeat() : beat + below(5);
                int loudness = from(1, 5);
                due("setLoudness", choir.setLoudness(beat, to, loudness),
                    model.setLoudness(beat, to, loudness));
                break;
            case 5:
                int sort = from(0, 2);
                due("setSort", choir.setSort(beat, sort), model.setSort(beat, sort));
                break;
            case 6:
                due("setPresent", choir.setPresent(singer, yes), model.setPresent(singer, yes));
                break;
            case 7: case 8: case 9:
                int end = below(6) == 0 ? someBeat() : beat + below(4);
                due("addSolo", choir.addSolo(singer, beat, end), model.addSolo(singer, beat, end));
                break;
            case 10:
                int solo = from(0, model.count(5));
                due("removeSolo", choir.removeSolo(solo), model.removeSolo(solo));
                break;
            case 11:
                int reserve = from(1, 8);
                due("setReserve", choir.setReserve(reserve), model.setReserve(reserve));
                break;
            case 12: case 13:
                due("make", choir.make(), model.make());
                break;
            case 14: case 15:
                due("undo", choir.undo(), model.undo());
                break;
            case 16:
                int slot = from(0, 1);
                due("keep", choir.keep(slot), model.keep(slot));
                break;
            case 17:
                int back = from(0, 1);
                due("restore", choir.restore(back), model.restore(back));
                break;
            default:
                due("mark", choir.mark(singer, beat, yes), model.mark(singer, beat, yes));
                break;
        }
    }

    private void tell() {
        int singer = someSinger();
        int beat = someBeat();
        int what = from(0, 7);
        switch (below(10)) {
            case 0: due("beat " + what, choir.beat(beat, what), model.beat(beat, what)); break;
            case 1: due("singer " + what, choir.singer(singer, what), model.singer(singer, what)); break;
            case 2: due("does", choir.does(singer, beat), model.does(singer, beat)); break;
            case 3: due("left", choir.left(singer, beat), model.left(singer, beat)); break;
            case 4:
                int solo = from(0, model.count(5));
                int part = from(0, 2);
                due("solo", choir.solo(solo, part), model.solo(solo, part));
                break;
            case 5: case 6:
                int place = from(0, Math.min(12, model.count(7)));
                int which = from(0, 2);
                due("fault", choir.fault(place, which), model.fault(place, which));
                break;
            case 7:
                due("silentWithout", choir.silentWithout(singer), model.silentWithout(singer));
                break;
            case 8: due("breathFor", choir.breathFor(singer), model.breathFor(singer)); break;
            default:
                int number = from(0, 15);
                due("count " + number, choir.count(number), model.count(number));
                break;
        }
    }
}
