import java.util.ArrayList;
import java.util.List;

/**
 * Shows what a call leaves as it was: of two objects that are made alike, one gets the call, and then
 * all that can be told of both is compared: now, behind undos, behind restoring, and of the text.
 */
final class Twins {
    /** Makes an object, each time the same one, with a hundred calls at most. */
    interface Recipe {
        LongTones make();
    }

    interface Call {
        int on(LongTones choir);
    }

    private static final int MOST_CALLS_TO_TELL = 400;
    private static final List<Call> VIEWS = views();

    private final Check check;

    Twins(Check check) {
        this.check = check;
    }

    /** The call answers what is due, and changes nothing. */
    void refused(String label, Recipe recipe, Call call, int due) {
        check.due(label, call.on(recipe.make()), due);
        unchanged(label, recipe, call);
    }

    void unchanged(String label, Recipe recipe, Call call) {
        for (int view = 0; view < VIEWS.size(); view++) {
            same(label + ", seen by view " + view, recipe, call, VIEWS.get(view));
        }
    }

    /** The act with an undo behind it changes nothing; the recipe leaves room in the history. */
    void undone(String label, Recipe recipe, Call act) {
        LongTones choir = recipe.make();
        int states = choir.count(14);
        check.due(label + ": it is no error", act.on(choir) >= 0 ? 1 : 0, 1);
        check.due(label + ": it is recorded", choir.count(14), states + 1);
        check.due(label + ": undo", choir.undo(), states);
        unchanged(label, recipe, x -> {
            act.on(x);
            return x.undo();
        });
    }

    private void same(String label, Recipe recipe, Call call, Call view) {
        LongTones left = recipe.make();
        LongTones changed = recipe.make();
        call.on(changed);
        List<Integer> due = new ArrayList<>();
        List<Integer> found = new ArrayList<>();
        due.add(view.on(left));
        found.add(view.on(changed));
        tellAll(left, due);
        tellAll(changed, found);
        check.due(label, found.equals(due) ? 1 : 0, 1);
        check.due("calls to tell " + label, due.size() <= MOST_CALLS_TO_TELL ? 1 : 0, 1);
    }

    private static List<Call> views() {
        List<Call> views = new ArrayList<>();
        for (int undos = 0; undos <= 5; undos++) {
            int times = undos;
            views.add(x -> undoTimes(x, times));
        }
        views.add(x -> x.restore(0));
        views.add(x -> x.restore(1));
        views.add(LongTones::read);
        views.add(LongTones::make);
        return views;
    }

    private static int undoTimes(LongTones choir, int times) {
        int answer = 0;
        for (int i = 0; i < times; i++) {
            answer = choir.undo();
        }
        return answer;
    }

    private static void tellAll(LongTones choir, List<Integer> told) {
        for (int what = 0; what <= 15; what++) {
            told.add(choir.count(what));
        }
        int beats = told.get(told.size() - 16);
        int singers = told.get(told.size() - 13);
        int solos = told.get(told.size() - 11);
        int faults = told.get(told.size() - 9);
        tellBeatsAndSingers(choir, told, beats, singers);
        for (int what = 0; what < 3; what++) {
            for (int solo = 0; solo < solos; solo++) {
                told.add(choir.solo(solo, what));
            }
            for (int place = 0; place < faults; place++) {
                told.add(choir.fault(place, what));
            }
        }
    }

    private static void tellBeatsAndSingers(LongTones choir, List<Integer> told, int beats, int singers) {
        for (int what = 0; what < 8; what++) {
            for (int beat = 0; beat < beats; beat++) {
                told.add(choir.beat(beat, what));
            }
            for (int singer = 0; singer < singers; singer++) {
                told.add(choir.singer(singer, what));
            }
        }
        for (int singer = 0; singer < singers; singer++) {
            told.add(choir.silentWithout(singer));
            told.add(choir.breathFor(singer));
            for (int beat = 0; beat < beats; beat++) {
                told.add(choir.does(singer, beat));
                told.add(choir.left(singer, beat));
            }
        }
    }
}
