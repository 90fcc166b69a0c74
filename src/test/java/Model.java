import java.util.ArrayDeque;
import java.util.ArrayList;
import java.util.Arrays;
import java.util.Comparator;
import java.util.List;
import java.util.TreeSet;
import java.util.regex.Matcher;
import java.util.regex.Pattern;

/** The document told a second time, with other means and without care for speed, to compare with. */
final class Model {
    private static final String ITEM = "(\\.|[-o][1-5]?)(x(9[0-6]|[1-8][0-9]|[2-9]))?";
    private static final Pattern TEXT = Pattern.compile("(" + ITEM + ")+");
    private static final Pattern ONE = Pattern.compile(ITEM);

    private static final class Singer {
        int breath;
        int recovery;
        boolean present = true;
        TreeSet<Integer> marks = new TreeSet<>();
    }

    private static final class State {
        List<int[]> beats = new ArrayList<>();
        List<Singer> singers = new ArrayList<>();
        List<int[]> solos = new ArrayList<>();
        int reserve = 2;

        State copy() {
            State copy = new State();
            for (int[] beat : beats) {
                copy.beats.add(beat.clone());
            }
            for (Singer singer : singers) {
                Singer twin = new Singer();
                twin.breath = singer.breath;
                twin.recovery = singer.recovery;
                twin.present = singer.present;
                twin.marks.addAll(singer.marks);
                copy.singers.add(twin);
            }
            for (int[] solo : solos) {
                copy.solos.add(solo.clone());
            }
            copy.reserve = reserve;
            return copy;
        }
    }

    private State now = new State();
    private String text = "";
    private final ArrayDeque<State> history = new ArrayDeque<>();
    private final State[] slots = new State[2];

    private void act() {
        history.addLast(now.copy());
        if (history.size() > 5) {
            history.removeFirst();
        }
    }

    private boolean noBeat(int beat) {
        return beat < 0 || beat >= now.beats.size();
    }

    private boolean noSinger(int singer) {
        return singer < 0 || singer >= now.singers.size();
    }

    private int sort(int beat) {
        return now.beats.get(beat)[0];
    }

    private int loudness(int beat) {
        return now.beats.get(beat)[1];
    }

    int type(char character) {
        if (text.length() == 60) {
            return -3;
        }
        text += character;
        return text.length();
    }

    int clearText() {
        int length = text.length();
        text = "";
        return length;
    }

    /** The longest start that could be gone on with tells where the fault is. */
    private int textFault() {
        for (int length = 1; length <= text.length(); length++) {
            Matcher start = TEXT.matcher(text.substring(0, length));
            if (!start.matches() && !start.hitEnd()) {
                return length - 1;
            }
        }
        if (!TEXT.matcher(text).matches()) {
            return text.length();
        }
        int beats = 0;
        Matcher item = ONE.matcher(text);
        while (item.find()) {
            beats += item.group(3) == null ? 1 : Integer.parseInt(item.group(3));
            if (beats > 96) {
                return item.start();
            }
        }
        return -1;
    }

    int read() {
        int fault = textFault();
        if (fault >= 0) {
            return -100 - fault;
        }
        act();
        now.beats.clear();
        now.solos.clear();
        for (Singer singer : now.singers) {
            singer.marks.clear();
        }
        Matcher item = ONE.matcher(text);
        while (item.find()) {
            String what = item.group(1);
            int times = item.group(3) == null ? 1 : Integer.parseInt(item.group(3));
            for (int i = 0; i < times; i++) {
                int loudness = what.length() == 2 ? what.charAt(1) - '0' : 2;
                now.beats.add(new int[] {".-o".indexOf(what.charAt(0)), loudness});
            }
        }
        return now.beats.size();
    }

    int setLoudness(int from, int to, int loudness) {
        if (noBeat(from) || noBeat(to)) {
            return -1;
        }
        if (to < from || loudness < 1 || loudness > 5) {
            return -2;
        }
        act();
        int number = 0;
        for (int[] beat : now.beats.subList(from, to + 1)) {
            beat[1] = loudness;
            number += beat[0] == 0 ? 0 : 1;
        }
        return number;
    }

    int setSort(int beat, int sort) {
        if (noBeat(beat)) {
            return -1;
        }
        if (sort < 0 || sort > 2) {
            return -2;
        }
        act();
        int previous = sort(beat);
        now.beats.get(beat)[0] = sort;
        return previous;
    }

    int addSinger(int breath, int recovery) {
        if (breath < 4 || breath > 40 || recovery < 1 || recovery > 10) {
            return -2;
        }
        if (now.singers.size() == 12) {
            return -3;
        }
        act();
        Singer singer = new Singer();
        singer.breath = breath;
        singer.recovery = recovery;
        now.singers.add(singer);
        return now.singers.size() - 1;
    }

    private int present() {
        return (int) now.singers.stream().filter(s -> s.present).count();
    }

    int setPresent(int singer, boolean present) {
        if (noSinger(singer)) {
            return -1;
        }
        if (now.singers.get(singer).present == present) {
            return -5;
        }
        act();
        now.singers.get(singer).present = present;
        return present();
    }

    int addSolo(int singer, int from, int to) {
        if (noSinger(singer) || noBeat(from) || noBeat(to)) {
            return -1;
        }
        if (to < from) {
            return -2;
        }
        for (int beat = from; beat <= to; beat++) {
            if (soloAt(beat) >= 0) {
                return -4;
            }
        }
        if (now.solos.size() == 8) {
            return -3;
        }
        act();
        int[] solo = {singer, from, to};
        now.solos.add(solo);
        now.solos.sort(Comparator.comparingInt(s -> s[1]));
        return now.solos.indexOf(solo);
    }

    int removeSolo(int solo) {
        if (solo < 0 || solo >= now.solos.size()) {
            return -1;
        }
        act();
        now.solos.remove(solo);
        return now.solos.size();
    }

    int mark(int singer, int beat, boolean marked) {
        if (noSinger(singer) || noBeat(beat)) {
            return -1;
        }
        TreeSet<Integer> marks = now.singers.get(singer).marks;
        if (marks.contains(beat) == marked) {
            return -5;
        }
        act();
        marks = now.singers.get(singer).marks;
        if (marked) {
            marks.add(beat);
        } else {
            marks.remove(beat);
        }
        return marks.size();
    }

    int setReserve(int reserve) {
        if (reserve < 1 || reserve > 8) {
            return -2;
        }
        act();
        int previous = now.reserve;
        now.reserve = reserve;
        return previous;
    }

    int make() {
        if (present() == 0 || now.beats.isEmpty()) {
            return -4;
        }
        act();
        for (Singer singer : now.singers) {
            singer.marks.clear();
        }
        for (int beat = 0; beat < now.beats.size(); beat++) {
            if (sort(beat) != 0 && soloAt(beat) < 0) {
                makeAt(beat);
            }
        }
        return marks();
    }

    private void makeAt(int beat) {
        List<Integer> sounding = new ArrayList<>();
        for (int ahead = beat; ahead < now.beats.size(); ahead++) {
            if (sort(ahead) != 0) {
                sounding.add(loudness(ahead));
            }
        }
        int needed = sounding.stream().limit(now.reserve).mapToInt(Integer::intValue).sum();
        List<int[]> wanting = new ArrayList<>();
        for (int s = 0; s < now.singers.size(); s++) {
            int left = leftAhead(s, beat);
            if (now.singers.get(s).present && left < needed) {
                wanting.add(new int[] {s, left});
            }
        }
        wanting.sort((a, b) -> a[1] != b[1] ? a[1] - b[1] : a[0] - b[0]);
        int most = Math.min(wanting.size(), Math.max(1, present() / 2));
        for (int number = most; number > 0; number--) {
            TreeSet<Integer> chosen = new TreeSet<>();
            wanting.subList(0, number).forEach(w -> chosen.add(w[0]));
            if (somebodySings(beat, chosen)) {
                chosen.forEach(s -> now.singers.get(s).marks.add(beat));
                return;
            }
        }
    }

    private boolean somebodySings(int beat, TreeSet<Integer> breathing) {
        for (int s = 0; s < now.singers.size(); s++) {
            boolean able = now.singers.get(s).present && leftAhead(s, beat) >= loudness(beat);
            if (able && !breathing.contains(s)) {
                return true;
            }
        }
        return false;
    }

    private int leftAhead(int singer, int beat) {
        Singer who = now.singers.get(singer);
        return beat == 0 ? who.breath : course(singer, who.breath, who.present)[beat - 1][1];
    }

    int undo() {
        if (history.isEmpty()) {
            return -5;
        }
        now = history.removeLast();
        return history.size();
    }

    int keep(int slot) {
        if (slot != 0 && slot != 1) {
            return -1;
        }
        slots[slot] = now.copy();
        return now.beats.size();
    }

    int restore(int slot) {
        if (slot != 0 && slot != 1) {
            return -1;
        }
        if (slots[slot] == null) {
            return -5;
        }
        act();
        now = slots[slot].copy();
        return now.beats.size();
    }

    private int soloAt(int beat) {
        for (int solo = 0; solo < now.solos.size(); solo++) {
            if (now.solos.get(solo)[1] <= beat && beat <= now.solos.get(solo)[2]) {
                return solo;
            }
        }
        return -5;
    }

    /** For each beat what the singer does in it, and the breath that is left behind it. */
    private int[][] course(int singer, int breath, boolean present) {
        Singer who = now.singers.get(singer);
        int[][] course = new int[now.beats.size()][];
        int left = breath;
        for (int beat = 0; beat < course.length; beat++) {
            int solo = soloAt(beat);
            int does = 0;
            if (sort(beat) == 0 || !present || solo >= 0 && now.solos.get(solo)[0] != singer) {
                does = 3;
            } else if (who.marks.contains(beat)) {
                does = 1;
            } else if (left < loudness(beat)) {
                does = 2;
            }
            left = does == 0 ? left - loudness(beat) : Math.min(breath, left + who.recovery);
            course[beat] = new int[] {does, left};
        }
        return course;
    }

    private int[][] course(int singer) {
        return course(singer, now.singers.get(singer).breath, now.singers.get(singer).present);
    }

    private TreeSet<Integer> doing(int beat, int doing, int without) {
        TreeSet<Integer> found = new TreeSet<>();
        for (int s = 0; s < now.singers.size(); s++) {
            boolean present = now.singers.get(s).present && s != without;
            if (course(s, now.singers.get(s).breath, present)[beat][0] == doing) {
                found.add(s);
            }
        }
        return found;
    }

    private List<List<Integer>> syllables() {
        List<List<Integer>> syllables = new ArrayList<>();
        for (int beat = 0; beat < now.beats.size(); beat++) {
            boolean goesOn = sort(beat) == 1 && beat > 0 && sort(beat - 1) != 0;
            if (sort(beat) != 0 && !goesOn) {
                syllables.add(new ArrayList<>());
            }
            if (sort(beat) != 0) {
                syllables.get(syllables.size() - 1).add(beat);
            }
        }
        return syllables;
    }

    private int firstOf(int beat) {
        for (List<Integer> syllable : syllables()) {
            if (syllable.contains(beat)) {
                return syllable.get(0);
            }
        }
        return -5;
    }

    int beat(int beat, int what) {
        if (noBeat(beat)) {
            return -1;
        }
        switch (what) {
            case 0: return sort(beat);
            case 1: return loudness(beat);
            case 2: return firstOf(beat);
            case 3: return doing(beat, 0, -1).size();
            case 4: return soloAt(beat);
            case 5: return doing(beat, 1, -1).size();
            case 6: return doing(beat, 2, -1).size();
            case 7: return doing(beat, 0, -1).stream().mapToInt(s -> loudness(beat)).sum();
            default: return -2;
        }
    }

    int singer(int singer, int what) {
        if (noSinger(singer)) {
            return -1;
        }
        Singer who = now.singers.get(singer);
        StringBuilder doings = new StringBuilder();
        int least = who.breath;
        for (int[] beat : course(singer)) {
            doings.append(beat[0]);
            least = Math.min(least, beat[1]);
        }
        switch (what) {
            case 0: return who.breath;
            case 1: return who.recovery;
            case 2: return who.present ? 1 : 0;
            case 3: return who.marks.size();
            case 4: return doings.toString().replaceAll("[^0]", "").length();
            case 5: return doings.toString().replaceAll("[^2]", "").length();
            case 6: return least;
            case 7: return Arrays.stream(doings.toString().split("[^0]+"))
                .mapToInt(String::length).max().orElse(0);
            default: return -2;
        }
    }

    int does(int singer, int beat) {
        return noSinger(singer) || noBeat(beat) ? -1 : course(singer)[beat][0];
    }

    int left(int singer, int beat) {
        return noSinger(singer) || noBeat(beat) ? -1 : course(singer)[beat][1];
    }

    int solo(int solo, int what) {
        if (solo < 0 || solo >= now.solos.size()) {
            return -1;
        }
        return what < 0 || what > 2 ? -2 : now.solos.get(solo)[what];
    }

    private List<int[]> faults() {
        List<int[]> faults = new ArrayList<>();
        for (int beat = 0; beat < now.beats.size(); beat++) {
            TreeSet<Integer> singing = doing(beat, 0, -1);
            if (sort(beat) != 0 && singing.isEmpty()) {
                faults.add(new int[] {0, beat, -5});
            }
            for (int s : doing(beat, 2, -1)) {
                faults.add(new int[] {1, beat, s});
            }
            for (int s : doing(beat, 1, -1)) {
                int solo = soloAt(beat);
                if (solo >= 0 && now.solos.get(solo)[0] == s) {
                    faults.add(new int[] {3, beat, s});
                } else if (firstOf(beat) != beat && singing.size() < 2) {
                    faults.add(new int[] {2, beat, s});
                }
            }
        }
        faults.sort((a, b) -> a[1] != b[1] ? a[1] - b[1] : a[0] != b[0] ? a[0] - b[0] : a[2] - b[2]);
        return faults;
    }

    int fault(int place, int what) {
        if (place < 0 || what < 0 || what > 2) {
            return -2;
        }
        List<int[]> faults = faults();
        return place >= faults.size() ? -5 : faults.get(place)[what];
    }

    int silentWithout(int singer) {
        if (noSinger(singer)) {
            return -1;
        }
        int silent = 0;
        for (int beat = 0; beat < now.beats.size(); beat++) {
            silent += sort(beat) != 0 && doing(beat, 0, singer).isEmpty() ? 1 : 0;
        }
        return silent;
    }

    int breathFor(int singer) {
        if (noSinger(singer)) {
            return -1;
        }
        for (int breath = 4; breath <= 40; breath++) {
            int[][] course = course(singer, breath, now.singers.get(singer).present);
            if (Arrays.stream(course).noneMatch(beat -> beat[0] == 2)) {
                return breath;
            }
        }
        return -5;
    }

    private int marks() {
        return now.singers.stream().mapToInt(s -> s.marks.size()).sum();
    }

    int count(int what) {
        switch (what) {
            case 0: return now.beats.size();
            case 1: return (int) now.beats.stream().filter(b -> b[0] == 0).count();
            case 2: return syllables().size();
            case 3: return now.singers.size();
            case 4: return present();
            case 5: return now.solos.size();
            case 6: return marks();
            case 7: return faults().size();
            case 8: case 9: case 10: case 11:
                return (int) faults().stream().filter(f -> f[0] == what - 8).count();
            case 12: return now.reserve;
            case 13: return syllables().stream().mapToInt(List::size).max().orElse(0);
            case 14: return history.size();
            case 15: return text.length();
            default: return -2;
        }
    }
}
