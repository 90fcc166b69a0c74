/**
 * Breath marks for a choir: a score of long tones, singers who breathe in turns, solos,
 * a plan of marks with its faults, texts of scores, undo and snapshots.
 */
public final class LongTones {
    public static final int UNKNOWN = -1;
    public static final int BAD_VALUE = -2;
    public static final int FULL = -3;
    public static final int NOT_POSSIBLE = -4;
    public static final int NONE = -5;

    private static final int MOST_BEATS = 96;
    private static final int MOST_SINGERS = 12;
    private static final int MOST_SOLOS = 8;
    private static final int MOST_SIGNS = 60;
    private static final int MOST_PAST = 5;
    private static final int SLOTS = 2;

    private static final int LEAST_BREATH = 4;
    private static final int MOST_BREATH = 40;
    private static final int MOST_RECOVERY = 10;
    private static final int MOST_LOUDNESS = 5;
    private static final int FIRST_LOUDNESS = 2;
    private static final int MOST_RESERVE = 8;
    private static final int FIRST_RESERVE = 2;

    private static final int REST = 0;
    private static final int TONE = 1;
    private static final int BEGINNING = 2;

    private static final int SINGS = 0;
    private static final int BREATHES = 1;
    private static final int GASPS = 2;
    private static final int NEED_NOT_SING = 3;

    private static final int SILENCE = 0;
    private static final int GASP = 1;
    private static final int BREATH_INSIDE = 2;
    private static final int SOLO_BREAK = 3;

    private static final int TEXT_FAULT = -100;

    private final State state;
    private final ScoreText text;
    private final Past past;
    private final State[] snapshots;
    private final Voice voice;
    private final Choir choir;
    private final Turns turns;

    public LongTones() {
        state = new State();
        text = new ScoreText();
        past = new Past();
        snapshots = new State[SLOTS];
        voice = new Voice();
        choir = new Choir();
        turns = new Turns();
    }

    // ---- score

    public int type(char character) {
        return text.append(character) ? text.length : FULL;
    }

    public int clearText() {
        int had = text.length;
        text.length = 0;
        return had;
    }

    public int read() {
        int wrong = text.findFault();
        if (wrong >= 0) {
            return TEXT_FAULT - wrong;
        }
        past.record(state);
        state.clearScore();
        text.writeTo(state);
        return state.beats;
    }

    public int setLoudness(int from, int to, int loudness) {
        if (!state.hasBeat(from) || !state.hasBeat(to)) {
            return UNKNOWN;
        }
        if (to < from || !isWithin(loudness, 1, MOST_LOUDNESS)) {
            return BAD_VALUE;
        }
        past.record(state);
        int sounding = 0;
        for (int beat = from; beat <= to; beat++) {
            state.loudnesses.put(beat, loudness);
            if (!state.isRest(beat)) {
                sounding++;
            }
        }
        return sounding;
    }

    public int setSort(int beat, int sort) {
        if (!state.hasBeat(beat)) {
            return UNKNOWN;
        }
        if (!isWithin(sort, REST, BEGINNING)) {
            return BAD_VALUE;
        }
        past.record(state);
        int previous = state.sorts.at(beat);
        state.sorts.put(beat, sort);
        return previous;
    }

    // ---- singers and solos

    public int addSinger(int breath, int recovery) {
        if (!isWithin(breath, LEAST_BREATH, MOST_BREATH) || !isWithin(recovery, 1, MOST_RECOVERY)) {
            return BAD_VALUE;
        }
        if (state.singers >= MOST_SINGERS) {
            return FULL;
        }
        past.record(state);
        return state.appendSinger(breath, recovery);
    }

    public int setPresent(int singer, boolean present) {
        if (!state.hasSinger(singer)) {
            return UNKNOWN;
        }
        if (state.isPresent(singer) == present) {
            return NONE;
        }
        past.record(state);
        state.present ^= bit(singer);
        return state.countPresent();
    }

    public int addSolo(int singer, int from, int to) {
        if (!state.hasSinger(singer) || !state.hasBeat(from) || !state.hasBeat(to)) {
            return UNKNOWN;
        }
        if (to < from) {
            return BAD_VALUE;
        }
        if (state.overlapsSolo(from, to)) {
            return NOT_POSSIBLE;
        }
        if (state.solos >= MOST_SOLOS) {
            return FULL;
        }
        past.record(state);
        return state.insertSolo(singer, from, to);
    }

    public int removeSolo(int solo) {
        if (!state.hasSolo(solo)) {
            return UNKNOWN;
        }
        past.record(state);
        state.dropSolo(solo);
        return state.solos;
    }

    // ---- the plan

    public int mark(int singer, int beat, boolean marked) {
        if (!state.hasSinger(singer) || !state.hasBeat(beat)) {
            return UNKNOWN;
        }
        if (state.isMarked(singer, beat) == marked) {
            return NONE;
        }
        past.record(state);
        state.marks.put(beat, state.marks.at(beat) ^ bit(singer));
        return state.countMarksOf(singer);
    }

    public int setReserve(int reserve) {
        if (!isWithin(reserve, 1, MOST_RESERVE)) {
            return BAD_VALUE;
        }
        past.record(state);
        int previous = state.reserve;
        state.reserve = reserve;
        return previous;
    }

    public int make() {
        if (state.present == 0 || state.beats == 0) {
            return NOT_POSSIBLE;
        }
        past.record(state);
        turns.makePlan(state);
        return state.countMarks();
    }

    // ---- history

    public int undo() {
        if (past.size == 0) {
            return NONE;
        }
        past.takeBack(state);
        return past.size;
    }

    public int keep(int slot) {
        if (slot < 0 || slot >= snapshots.length) {
            return UNKNOWN;
        }
        State kept = snapshots[slot];
        if (kept == null) {
            kept = new State();
            snapshots[slot] = kept;
        }
        kept.copyFrom(state);
        return state.beats;
    }

    public int restore(int slot) {
        if (slot < 0 || slot >= snapshots.length) {
            return UNKNOWN;
        }
        State kept = snapshots[slot];
        if (kept == null) {
            return NONE;
        }
        past.record(state);
        state.copyFrom(kept);
        return state.beats;
    }

    // ---- what is told

    public int beat(int beat, int what) {
        if (!state.hasBeat(beat)) {
            return UNKNOWN;
        }
        switch (what) {
            case 0:
                return state.sorts.at(beat);
            case 1:
                return state.loudnesses.at(beat);
            case 2:
                return state.firstOfSyllable(beat);
            case 4:
                return state.soloAt(beat);
            default:
                choir.follow(state, voice);
                return performed(beat, what);
        }
    }

    public int singer(int singer, int what) {
        if (!state.hasSinger(singer)) {
            return UNKNOWN;
        }
        switch (what) {
            case 0:
                return state.breaths.at(singer);
            case 1:
                return state.recoveries.at(singer);
            case 2:
                return state.isPresent(singer) ? 1 : 0;
            case 3:
                return state.countMarksOf(singer);
            default:
                voice.follow(state, singer, state.breaths.at(singer));
                return performedBy(what);
        }
    }

    public int does(int singer, int beat) {
        if (!state.hasSinger(singer) || !state.hasBeat(beat)) {
            return UNKNOWN;
        }
        voice.follow(state, singer, state.breaths.at(singer));
        return voice.doings.at(beat);
    }

    public int left(int singer, int beat) {
        if (!state.hasSinger(singer) || !state.hasBeat(beat)) {
            return UNKNOWN;
        }
        voice.follow(state, singer, state.breaths.at(singer));
        return voice.lefts.at(beat);
    }

    public int solo(int solo, int what) {
        if (!state.hasSolo(solo)) {
            return UNKNOWN;
        }
        switch (what) {
            case 0:
                return state.soloSingers.at(solo);
            case 1:
                return state.soloStarts.at(solo);
            case 2:
                return state.soloEnds.at(solo);
            default:
                return BAD_VALUE;
        }
    }

    public int fault(int place, int what) {
        if (place < 0 || !isWithin(what, 0, 2)) {
            return BAD_VALUE;
        }
        choir.follow(state, voice);
        return choir.tellFault(state, place, what);
    }

    public int silentWithout(int singer) {
        if (!state.hasSinger(singer)) {
            return UNKNOWN;
        }
        choir.follow(state, voice);
        return choir.countSilentWithout(state, singer);
    }

    public int breathFor(int singer) {
        if (!state.hasSinger(singer)) {
            return UNKNOWN;
        }
        for (int breath = LEAST_BREATH; breath <= MOST_BREATH; breath++) {
            voice.follow(state, singer, breath);
            if (voice.countDoing(GASPS) == 0) {
                return breath;
            }
        }
        return NONE;
    }

    public int count(int what) {
        switch (what) {
            case 0:
                return state.beats;
            case 1:
                return state.countRests();
            case 2:
                return state.countSyllables();
            case 3:
                return state.singers;
            case 4:
                return state.countPresent();
            case 5:
                return state.solos;
            case 6:
                return state.countMarks();
            case 7:
                choir.follow(state, voice);
                return choir.countFaults(state, SILENCE, SOLO_BREAK);
            case 8:
            case 9:
            case 10:
            case 11:
                choir.follow(state, voice);
                return choir.countFaults(state, what - 8, what - 8);
            case 12:
                return state.reserve;
            case 13:
                return state.longestSyllable();
            case 14:
                return past.size;
            case 15:
                return text.length;
            default:
                return BAD_VALUE;
        }
    }

    private int performed(int beat, int what) {
        int singing = Integer.bitCount(choir.singing.at(beat));
        switch (what) {
            case 3:
                return singing;
            case 5:
                return Integer.bitCount(choir.breathing.at(beat));
            case 6:
                return Integer.bitCount(choir.gasping.at(beat));
            case 7:
                return singing * state.loudnesses.at(beat);
            default:
                return BAD_VALUE;
        }
    }

    private int performedBy(int what) {
        switch (what) {
            case 4:
                return voice.countDoing(SINGS);
            case 5:
                return voice.countDoing(GASPS);
            case 6:
                return voice.leastLeft();
            case 7:
                return voice.longestSung();
            default:
                return BAD_VALUE;
        }
    }

    private static boolean isWithin(int value, int least, int most) {
        return value >= least && value <= most;
    }

    /** Sets of singers are held as bits of an int: there are at most 12 of them. */
    private static int bit(int singer) {
        return 1 << singer;
    }

    private static boolean contains(int set, int singer) {
        return (set >> singer & 1) != 0;
    }

    /** A row of numbers that looks at every index, so that no use of it can fail. */
    private static final class Row {
        final int[] cells;

        Row(int length) {
            cells = new int[Math.max(0, length)];
        }

        int at(int place) {
            return place >= 0 && place < cells.length ? cells[place] : 0;
        }

        void put(int place, int value) {
            if (place >= 0 && place < cells.length) {
                cells[place] = value;
            }
        }

        void clear() {
            for (int place = 0; place < cells.length; place++) {
                cells[place] = 0;
            }
        }

        void copyFrom(Row other) {
            for (int place = 0; place < cells.length; place++) {
                cells[place] = other.at(place);
            }
        }
    }

    /** What undo and snapshots bring back: the score, the singers, the solos and the plan. */
    private static final class State {
        int beats;
        int singers;
        int present;
        int solos;
        int reserve;
        final Row sorts = new Row(MOST_BEATS);
        final Row loudnesses = new Row(MOST_BEATS);
        final Row marks = new Row(MOST_BEATS);
        final Row breaths = new Row(MOST_SINGERS);
        final Row recoveries = new Row(MOST_SINGERS);
        final Row soloSingers = new Row(MOST_SOLOS);
        final Row soloStarts = new Row(MOST_SOLOS);
        final Row soloEnds = new Row(MOST_SOLOS);

        State() {
            reserve = FIRST_RESERVE;
        }

        void copyFrom(State other) {
            beats = other.beats;
            singers = other.singers;
            present = other.present;
            solos = other.solos;
            reserve = other.reserve;
            sorts.copyFrom(other.sorts);
            loudnesses.copyFrom(other.loudnesses);
            marks.copyFrom(other.marks);
            breaths.copyFrom(other.breaths);
            recoveries.copyFrom(other.recoveries);
            soloSingers.copyFrom(other.soloSingers);
            soloStarts.copyFrom(other.soloStarts);
            soloEnds.copyFrom(other.soloEnds);
        }

        boolean hasBeat(int beat) {
            return beat >= 0 && beat < beats;
        }

        boolean hasSinger(int singer) {
            return singer >= 0 && singer < singers;
        }

        boolean hasSolo(int solo) {
            return solo >= 0 && solo < solos;
        }

        // -- the score

        void clearScore() {
            beats = 0;
            solos = 0;
            marks.clear();
        }

        void appendBeats(int sort, int loudness, int times) {
            for (int i = 0; i < times && beats < MOST_BEATS; i++) {
                sorts.put(beats, sort);
                loudnesses.put(beats, loudness);
                beats++;
            }
        }

        boolean isRest(int beat) {
            return sorts.at(beat) == REST;
        }

        int firstOfSyllable(int beat) {
            if (isRest(beat)) {
                return NONE;
            }
            int first = beat;
            while (first > 0 && sorts.at(first) == TONE && !isRest(first - 1)) {
                first--;
            }
            return first;
        }

        int countRests() {
            int rests = 0;
            for (int beat = 0; beat < beats; beat++) {
                if (isRest(beat)) {
                    rests++;
                }
            }
            return rests;
        }

        int countSyllables() {
            int syllables = 0;
            for (int beat = 0; beat < beats; beat++) {
                if (firstOfSyllable(beat) == beat) {
                    syllables++;
                }
            }
            return syllables;
        }

        int longestSyllable() {
            int longest = 0;
            for (int beat = 0; beat < beats; beat++) {
                if (!isRest(beat)) {
                    longest = Math.max(longest, beat - firstOfSyllable(beat) + 1);
                }
            }
            return longest;
        }

        // -- singers and solos

        int appendSinger(int breath, int recovery) {
            int singer = singers;
            breaths.put(singer, breath);
            recoveries.put(singer, recovery);
            present |= bit(singer);
            singers++;
            return singer;
        }

        boolean isPresent(int singer) {
            return contains(present, singer);
        }

        int countPresent() {
            return Integer.bitCount(present);
        }

        int soloAt(int beat) {
            for (int solo = 0; solo < solos; solo++) {
                if (soloStarts.at(solo) <= beat && beat <= soloEnds.at(solo)) {
                    return solo;
                }
            }
            return NONE;
        }

        boolean overlapsSolo(int from, int to) {
            for (int solo = 0; solo < solos; solo++) {
                if (soloStarts.at(solo) <= to && from <= soloEnds.at(solo)) {
                    return true;
                }
            }
            return false;
        }

        int insertSolo(int singer, int from, int to) {
            int place = solos;
            while (place > 0 && soloStarts.at(place - 1) > from) {
                moveSolo(place - 1, place);
                place--;
            }
            soloSingers.put(place, singer);
            soloStarts.put(place, from);
            soloEnds.put(place, to);
            solos++;
            return place;
        }

        void dropSolo(int solo) {
            for (int place = solo; place < solos - 1; place++) {
                moveSolo(place + 1, place);
            }
            solos--;
        }

        private void moveSolo(int from, int to) {
            soloSingers.put(to, soloSingers.at(from));
            soloStarts.put(to, soloStarts.at(from));
            soloEnds.put(to, soloEnds.at(from));
        }

        // -- the plan

        boolean isMarked(int singer, int beat) {
            return contains(marks.at(beat), singer);
        }

        int countMarks() {
            int number = 0;
            for (int beat = 0; beat < beats; beat++) {
                number += Integer.bitCount(marks.at(beat));
            }
            return number;
        }

        int countMarksOf(int singer) {
            int number = 0;
            for (int beat = 0; beat < beats; beat++) {
                if (isMarked(singer, beat)) {
                    number++;
                }
            }
            return number;
        }

        private boolean hasToSing(int singer, int beat) {
            if (isRest(beat) || !isPresent(singer)) {
                return false;
            }
            int solo = soloAt(beat);
            return solo == NONE || soloSingers.at(solo) == singer;
        }

        int doing(int singer, int beat, int breathLeft) {
            if (!hasToSing(singer, beat)) {
                return NEED_NOT_SING;
            }
            if (isMarked(singer, beat)) {
                return BREATHES;
            }
            return breathLeft < loudnesses.at(beat) ? GASPS : SINGS;
        }
    }

    /** The text of a score, and the reading of it, an item at a time. */
    private static final class ScoreText {
        private static final int END = -1;

        final Row signs = new Row(MOST_SIGNS);
        int length;
        private int at;
        private int sort;
        private int loudness;
        private int times;

        boolean append(char character) {
            if (length >= MOST_SIGNS) {
                return false;
            }
            signs.put(length, character);
            length++;
            return true;
        }

        /** The index of the fault, or -1. A wrong sign anywhere goes ahead of too many beats. */
        int findFault() {
            if (length == 0) {
                return 0;
            }
            int tooMany = -1;
            int beats = 0;
            at = 0;
            for (int item = 0; item < MOST_SIGNS && at < length; item++) {
                int start = at;
                if (!readItem()) {
                    return at;
                }
                beats += times;
                if (beats > MOST_BEATS && tooMany < 0) {
                    tooMany = start;
                }
            }
            return tooMany;
        }

        void writeTo(State state) {
            at = 0;
            for (int item = 0; item < MOST_SIGNS && at < length; item++) {
                if (!readItem()) {
                    return;
                }
                state.appendBeats(sort, loudness, times);
            }
        }

        /** Goes behind the item at the place, or stays at the first sign that is wrong in it. */
        private boolean readItem() {
            sort = sortOf(signAt(at));
            if (sort < 0) {
                return false;
            }
            at++;
            loudness = FIRST_LOUDNESS;
            int digit = digitAt(at);
            if (sort != REST && isWithin(digit, 1, MOST_LOUDNESS)) {
                loudness = digit;
                at++;
            }
            times = 1;
            if (signAt(at) != 'x') {
                return true;
            }
            at++;
            return readTimes();
        }

        private boolean readTimes() {
            int first = digitAt(at);
            if (first < 1) {
                return false;
            }
            times = first;
            at++;
            int second = digitAt(at);
            if (second < 0) {
                return first != 1;
            }
            times = first * 10 + second;
            if (times > MOST_BEATS) {
                return false;
            }
            at++;
            return true;
        }

        private int signAt(int place) {
            return place < length ? signs.at(place) : END;
        }

        private int digitAt(int place) {
            int sign = signAt(place);
            return isWithin(sign, '0', '9') ? sign - '0' : -1;
        }

        private static int sortOf(int sign) {
            switch (sign) {
                case '.':
                    return REST;
                case '-':
                    return TONE;
                case 'o':
                    return BEGINNING;
                default:
                    return -1;
            }
        }
    }

    /** The history; its states are made when they are first needed, and then used again. */
    private static final class Past {
        final State[] states = new State[MOST_PAST];
        int size;

        void record(State now) {
            if (size >= states.length) {
                forgetOldest();
            }
            if (size < 0 || size >= states.length) {
                return;
            }
            State free = states[size];
            if (free == null) {
                free = new State();
                states[size] = free;
            }
            free.copyFrom(now);
            size++;
        }

        void takeBack(State into) {
            int latest = size - 1;
            if (latest < 0 || latest >= states.length) {
                return;
            }
            State state = states[latest];
            if (state == null) {
                return;
            }
            into.copyFrom(state);
            size = latest;
        }

        /** The oldest state goes to the end of the row, to be written over there. */
        private void forgetOldest() {
            for (int place = 1; place < states.length; place++) {
                State older = states[place - 1];
                states[place - 1] = states[place];
                states[place] = older;
            }
            size--;
        }
    }

    /** What one singer does in each beat by the plan, and the breath that is left behind it. */
    private static final class Voice {
        final Row doings = new Row(MOST_BEATS);
        final Row lefts = new Row(MOST_BEATS);
        private int beats;
        private int wholeBreath;

        /** The breath is given, as it is also asked what would be with another one. */
        void follow(State state, int singer, int breath) {
            beats = state.beats;
            wholeBreath = breath;
            int recovery = state.recoveries.at(singer);
            int left = breath;
            for (int beat = 0; beat < beats; beat++) {
                int doing = state.doing(singer, beat, left);
                if (doing == SINGS) {
                    left -= state.loudnesses.at(beat);
                } else {
                    left = Math.min(breath, left + recovery);
                }
                doings.put(beat, doing);
                lefts.put(beat, left);
            }
        }

        int countDoing(int doing) {
            int number = 0;
            for (int beat = 0; beat < beats; beat++) {
                if (doings.at(beat) == doing) {
                    number++;
                }
            }
            return number;
        }

        int leastLeft() {
            int least = wholeBreath;
            for (int beat = 0; beat < beats; beat++) {
                least = Math.min(least, lefts.at(beat));
            }
            return least;
        }

        int longestSung() {
            int longest = 0;
            int row = 0;
            for (int beat = 0; beat < beats; beat++) {
                row = doings.at(beat) == SINGS ? row + 1 : 0;
                longest = Math.max(longest, row);
            }
            return longest;
        }
    }

    /** Who sings, breathes by a mark and gasps in each beat, as sets; and the faults of that. */
    private static final class Choir {
        final Row singing = new Row(MOST_BEATS);
        final Row breathing = new Row(MOST_BEATS);
        final Row gasping = new Row(MOST_BEATS);

        void follow(State state, Voice voice) {
            singing.clear();
            breathing.clear();
            gasping.clear();
            for (int singer = 0; singer < state.singers; singer++) {
                voice.follow(state, singer, state.breaths.at(singer));
                for (int beat = 0; beat < state.beats; beat++) {
                    collect(singer, beat, voice.doings.at(beat));
                }
            }
        }

        private void collect(int singer, int beat, int doing) {
            switch (doing) {
                case SINGS:
                    singing.put(beat, singing.at(beat) | bit(singer));
                    break;
                case BREATHES:
                    breathing.put(beat, breathing.at(beat) | bit(singer));
                    break;
                case GASPS:
                    gasping.put(beat, gasping.at(beat) | bit(singer));
                    break;
                default:
                    break;
            }
        }

        int countSilentWithout(State state, int singer) {
            int silent = 0;
            for (int beat = 0; beat < state.beats; beat++) {
                if (!state.isRest(beat) && (singing.at(beat) & ~bit(singer)) == 0) {
                    silent++;
                }
            }
            return silent;
        }

        int countFaults(State state, int firstSort, int lastSort) {
            int faults = 0;
            for (int beat = 0; beat < state.beats; beat++) {
                for (int sort = firstSort; sort <= lastSort; sort++) {
                    faults += Integer.bitCount(faultsAt(state, beat, sort));
                }
            }
            return faults;
        }

        int tellFault(State state, int place, int what) {
            int ahead = place;
            for (int beat = 0; beat < state.beats; beat++) {
                for (int sort = SILENCE; sort <= SOLO_BREAK; sort++) {
                    int faulty = faultsAt(state, beat, sort);
                    int number = Integer.bitCount(faulty);
                    if (ahead < number) {
                        return tellOne(sort, beat, memberAt(faulty, ahead), what);
                    }
                    ahead -= number;
                }
            }
            return NONE;
        }

        private static int tellOne(int sort, int beat, int singer, int what) {
            switch (what) {
                case 0:
                    return sort;
                case 1:
                    return beat;
                default:
                    return sort == SILENCE ? NONE : singer;
            }
        }

        /** The singers with such a fault; silence, which is nobody's, is held as one of them. */
        private int faultsAt(State state, int beat, int sort) {
            switch (sort) {
                case SILENCE:
                    return !state.isRest(beat) && singing.at(beat) == 0 ? 1 : 0;
                case GASP:
                    return gasping.at(beat);
                case BREATH_INSIDE:
                    return isThinInside(state, beat) ? breathing.at(beat) : 0;
                case SOLO_BREAK:
                    return state.soloAt(beat) != NONE ? breathing.at(beat) : 0;
                default:
                    return 0;
            }
        }

        private boolean isThinInside(State state, int beat) {
            return state.soloAt(beat) == NONE
                && state.firstOfSyllable(beat) != beat
                && Integer.bitCount(singing.at(beat)) < 2;
        }

        private static int memberAt(int set, int place) {
            int passed = 0;
            for (int singer = 0; singer < MOST_SINGERS; singer++) {
                if (contains(set, singer)) {
                    if (passed == place) {
                        return singer;
                    }
                    passed++;
                }
            }
            return NONE;
        }
    }

    /** The making of a plan by turns. */
    private static final class Turns {
        private final Row lefts = new Row(MOST_SINGERS);

        void makePlan(State state) {
            state.marks.clear();
            lefts.copyFrom(state.breaths);
            for (int beat = 0; beat < state.beats; beat++) {
                if (!state.isRest(beat) && state.soloAt(beat) == NONE) {
                    state.marks.put(beat, chooseFor(state, beat));
                }
                goThrough(state, beat);
            }
        }

        private int chooseFor(State state, int beat) {
            int needed = neededFrom(state, beat);
            int most = Math.max(1, state.countPresent() / 2);
            int chosen = 0;
            for (int turn = 0; turn < most; turn++) {
                int next = shortestOfBreath(state, needed, chosen);
                if (next == NONE || !canBeSungWithout(state, chosen | bit(next), beat)) {
                    return chosen;
                }
                chosen |= bit(next);
            }
            return chosen;
        }

        private int neededFrom(State state, int beat) {
            int needed = 0;
            int summed = 0;
            for (int ahead = beat; ahead < state.beats && summed < state.reserve; ahead++) {
                if (!state.isRest(ahead)) {
                    needed += state.loudnesses.at(ahead);
                    summed++;
                }
            }
            return needed;
        }

        /** Of those who want to breathe and are not chosen yet, the first one in their order. */
        private int shortestOfBreath(State state, int needed, int chosen) {
            int shortest = NONE;
            int least = needed;
            for (int singer = 0; singer < state.singers; singer++) {
                boolean open = state.isPresent(singer) && !contains(chosen, singer);
                if (open && lefts.at(singer) < least) {
                    shortest = singer;
                    least = lefts.at(singer);
                }
            }
            return shortest;
        }

        private boolean canBeSungWithout(State state, int breathing, int beat) {
            for (int singer = 0; singer < state.singers; singer++) {
                boolean open = state.isPresent(singer) && !contains(breathing, singer);
                if (open && lefts.at(singer) >= state.loudnesses.at(beat)) {
                    return true;
                }
            }
            return false;
        }

        private void goThrough(State state, int beat) {
            for (int singer = 0; singer < state.singers; singer++) {
                int left = lefts.at(singer);
                if (state.doing(singer, beat, left) == SINGS) {
                    lefts.put(singer, left - state.loudnesses.at(beat));
                } else {
                    int back = left + state.recoveries.at(singer);
                    lefts.put(singer, Math.min(state.breaths.at(singer), back));
                }
            }
        }
    }
}
