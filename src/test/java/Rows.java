import java.util.ArrayList;
import java.util.List;

/**
 * Runs of calls on a new object, told as rows: "rent 0 1 = -2" is a call with the answer that is due, "bicycle 0" one that is no
 * error, "8x bicycle 0" one that is made eight times, "text wait 1;" a clearText and a type for each character.
 * Behind each row whose due answer is an error, and each that only asks, all is compared with an object without that call.
 */
final class Rows {
    private static final int MOST_CALLS = 512;
    // What a look behind a refused call needs: lookAtAll on a road with all that there may be, and full for all riders.
    private static final int CALLS_OF_A_LOOK = 280;
    private static final int LOOKS = 9;
    private static final List<String> QUESTIONS =
        List.of("stationOf", "bicycleOf", "riderOf", "vanOf", "count", "move", "evening", "fault");

    private record Call(String row, String name, int a, int b, Integer due) {
        int make(DockedBikes x) {
            return Calls.ask(x, name, a, b);
        }
    }

    private Rows() {
    }

    static void told(String sentence, String rows) {
        Checks.title(sentence);
        List<Call> calls = read(rows);
        Checks.holds("the run has more than " + MOST_CALLS + " calls", calls.size() <= MOST_CALLS);
        DockedBikes x = new DockedBikes();
        for (int i = 0; i < calls.size(); i++) {
            Call call = calls.get(i);
            int got = call.make(x);
            if (call.due == null) {
                Checks.holds(call.row + " answered " + got + " and is no error", got >= 0);
            } else {
                Checks.due(call.row, got, call.due);
                boolean room = i + 1 + CALLS_OF_A_LOOK <= MOST_CALLS;
                Checks.holds("too many calls ahead of the error " + call.row, room || call.due >= 0);
                if (room && (call.due < 0 || QUESTIONS.contains(call.name))) {
                    changesNothing(calls.subList(0, i), call);
                }
            }
        }
    }

    private static List<Call> read(String rows) {
        List<Call> calls = new ArrayList<>();
        for (String row : rows.split("\n")) {
            if (row.startsWith("text ")) {
                calls.add(new Call(row, "clearText", 0, 0, null));
                for (char sign : row.substring(5).toCharArray()) {
                    calls.add(new Call(row, "type", sign, 0, null));
                }
            } else {
                readCalls(row, calls);
            }
        }
        return calls;
    }

    private static void readCalls(String row, List<Call> calls) {
        String[] sides = row.split(" = ");
        String[] words = sides[0].split(" ");
        boolean several = words[0].matches("\\d+x");
        int first = several ? 1 : 0;
        int times = several ? Integer.parseInt(words[0].substring(0, words[0].length() - 1)) : 1;
        Integer due = sides.length > 1 ? Integer.valueOf(sides[1]) : null;
        Call call = new Call(row, words[first], argument(words, first + 1), argument(words, first + 2), due);
        for (int i = 0; i < times; i++) {
            calls.add(call);
        }
    }

    private static int argument(String[] words, int at) {
        return at < words.length ? Integer.parseInt(words[at]) : 0;
    }

    /** Whether two runs lead to the same, as far as any later call can tell. */
    static boolean same(String rows, String others) {
        return lookAll(read(rows)).equals(lookAll(read(others)));
    }

    private static void changesNothing(List<Call> ahead, Call idle) {
        List<Call> with = new ArrayList<>(ahead);
        with.add(idle);
        Checks.holds(idle.row + " changes something", lookAll(with).equals(lookAll(ahead)));
    }

    private static List<Integer> lookAll(List<Call> calls) {
        List<Integer> seen = new ArrayList<>();
        for (int look = 0; look < LOOKS; look++) {
            look(after(calls), look, seen);
        }
        return seen;
    }

    private static DockedBikes after(List<Call> calls) {
        DockedBikes x = new DockedBikes();
        for (Call call : calls) {
            call.make(x);
        }
        return x;
    }

    /** Looks at the state, or at what can be seen of it only by going on from it. */
    private static void look(DockedBikes x, int look, List<Integer> seen) {
        switch (look) {
            case 5: seen.add(x.restore()); break;
            case 6: seen.add(x.play()); break;
            case 7: goOn(x, seen); break;
            case 8: tellAllFull(x, seen); break;
            default:
                for (int i = 0; i < look; i++) {
                    seen.add(x.undo());
                }
        }
        seen.addAll(Checks.lookAtAll(x));
    }

    private static void goOn(DockedBikes x, List<Integer> seen) {
        for (int i = 0; i < 6; i++) {
            seen.add(x.pause(200));
        }
    }

    private static void tellAllFull(DockedBikes x, List<Integer> seen) {
        for (int r = 0; r < x.count(2); r++) {
            for (int s = 0; s < x.count(0); s++) {
                seen.add(x.full(r, s));
            }
        }
    }
}
