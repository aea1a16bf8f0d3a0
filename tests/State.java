import java.util.ArrayList;
import java.util.List;

/**
 * All that can be told of an object from outside, but for count() 8. Looking changes it, and an object is good for
 * 512 calls, so each part is looked at on a new object that was brought to the same state by the same deeds.
 */
final class State {
    /** What was done to a new object. */
    interface Deeds {
        void on(OnlySideways x);
    }

    private static final int LEAST = Integer.MIN_VALUE;
    private static final String[] OTHERS = {"8000;4000;2000;1000;0800;0400;0200;0100",
        "c000;8800;f000;8888;ffff;88c0;44c0;9009"};

    private State() { }

    static List<Long> after(Deeds deeds) {
        List<Long> told = new ArrayList<>();
        tellAnswers(made(deeds), told);
        tellText(made(deeds), 0, told);
        tellText(made(deeds), 1, told);
        for (int s = 0; s < 4; s++) {
            tellSheet(made(deeds), s, told);
        }
        tellSeen(made(deeds), told);
        return told;
    }

    static int findingAfter(Deeds deeds) {
        return made(deeds).count(8);
    }

    private static OnlySideways made(Deeds deeds) {
        OnlySideways x = new OnlySideways();
        deeds.on(x);
        return x;
    }

    private static void tellAnswers(OnlySideways x, List<Long> told) {
        told.add(x.digest());
        for (int what = 0; what < 8; what++) {
            told.add((long) x.count(what));
        }
        for (int i = 0; i < 8; i++) {
            told.add((long) x.shape(i, 0));
        }
        for (int cell = 0; cell < 64; cell++) {
            told.add((long) x.view(cell));
        }
    }

    private static void tellText(OnlySideways x, int text, List<Long> told) {
        int left = x.count(2 + text);
        while (left >= 0) {
            told.add((long) x.fault(text));
            told.add((long) x.count(text));
            left = x.undo(text);
            told.add((long) left);
        }
    }

    private static void tellSheet(OnlySideways x, int s, List<Long> told) {
        for (int form = 0; form < 3; form++) {
            for (int i = 0; i < 65; i++) {
                int item = x.get(s, form, i);
                told.add((long) item);
                if (item == LEAST) {
                    told.add((long) x.count(8));
                    break;
                }
            }
        }
        told.add((long) x.lose(s));
    }

    private static void tellSeen(OnlySideways x, List<Long> told) {
        told.add((long) x.fits(0));
        for (String other : OTHERS) {
            x.wipe(0);
            Due.typeAll(x, 0, other);
            told.add((long) x.fits(0));
            told.add((long) x.fits(1));
            told.add((long) x.look(0));
        }
        told.add((long) x.forget());
        told.add((long) x.fits(1));
    }
}
