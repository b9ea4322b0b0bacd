import java.util.ArrayList;
import java.util.List;

/** What the tests share: counting of answers, texts as runs of type, and a look at all that can be asked. */
final class Checks {
    private static int passed = 0;
    private static int failed = 0;
    private static String title = "";

    private Checks() {
    }

    static void title(String newTitle) {
        title = newTitle;
    }

    static void due(String call, long got, long want) {
        if (got == want) {
            passed++;
        } else {
            failed++;
            System.out.println(title + ": " + call + " answered " + got + ", due is " + want);
        }
    }

    static void holds(String what, boolean good) {
        if (good) {
            passed++;
        } else {
            failed++;
            System.out.println(title + ": " + what);
        }
    }

    static void end() {
        System.out.println(passed + " passed, " + failed + " failed");
        if (failed > 0) {
            System.exit(1);
        }
    }

    static void write(DockedBikes x, String text) {
        for (int i = 0; i < text.length(); i++) {
            x.type(text.charAt(i));
        }
    }

    /** All answers about the state, without the history, the text and the snapshot. */
    static List<Integer> look(DockedBikes x) {
        List<Integer> answers = new ArrayList<>();
        for (int what = 0; what <= 22; what++) {
            if (what < 13 || what > 15) {
                answers.add(x.count(what));
            }
        }
        for (int s = 0; s < x.count(0); s++) {
            for (int what = 0; what <= 6; what++) {
                answers.add(x.stationOf(s, what));
            }
        }
        for (int b = 0; b < x.count(1); b++) {
            for (int what = 0; what <= 4; what++) {
                answers.add(x.bicycleOf(b, what));
            }
        }
        for (int r = 0; r < x.count(2); r++) {
            for (int what = 0; what <= 7; what++) {
                answers.add(x.riderOf(r, what));
            }
        }
        for (int v = 0; v < x.count(3); v++) {
            for (int what = 0; what <= 3; what++) {
                answers.add(x.vanOf(v, what));
            }
        }
        for (int what = 0; what <= 2; what++) {
            answers.add(x.move(what));
        }
        answers.add(x.evening());
        return answers;
    }

    /** The look, and history, text and snapshot too. */
    static List<Integer> lookAtAll(DockedBikes x) {
        List<Integer> answers = look(x);
        for (int what = 13; what <= 15; what++) {
            answers.add(x.count(what));
        }
        for (int what = 0; what <= 2; what++) {
            answers.add(x.fault(what));
        }
        return answers;
    }
}
