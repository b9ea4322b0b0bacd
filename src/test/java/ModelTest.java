import java.util.Random;

/** Runs of up to 512 calls, made from fixed seeds, in which each answer is compared with the model's. */
public final class ModelTest {
    private static final int RUNS = 3000;
    private static final int CALLS = 512;
    private static final String[] NAMES = {"station", "bicycle", "rider", "van", "pass", "rent", "back", "full", "report", "take",
        "put", "go", "mend", "pause", "set", "stationOf", "bicycleOf", "riderOf", "vanOf", "count", "move", "evening", "keep",
        "restore", "undo", "type", "clearText", "fault", "play"};
    private static final int[] WEIGHTS = {4, 9, 4, 2, 2, 16, 16, 8, 5, 10, 8, 8, 12, 10, 2, 14, 14, 14, 8, 12, 6, 5, 1, 1, 2, 2, 1, 5, 5};
    private static final String[] WORDS = {"rent", "back", "full", "fault", "take", "put", "go", "mend", "pass", "wait"};

    private final Random random;
    private final DockedBikes bikes = new DockedBikes();
    private final Model model = new Model();
    private final int[] weights = new int[NAMES.length];
    private final StringBuilder log = new StringBuilder();
    private String toType = "";
    private int calls = 0;
    private boolean good = true;
    private final boolean longPauses;

    private ModelTest(int seed) {
        random = new Random(seed);
        longPauses = random.nextInt(6) == 0;
        for (int i = 0; i < weights.length; i++) {
            // Some runs do little of one thing and much of another, so that limits are met too.
            weights[i] = WEIGHTS[i] * (random.nextInt(8) == 0 ? 6 : 1 + random.nextInt(3));
            if (longPauses && (NAMES[i].equals("pause") || NAMES[i].equals("pass"))) {
                weights[i] *= 5;
            }
        }
    }

    public static void main(String[] args) {
        int wrong = 0;
        // A run that went wrong is told whole: a few of them say enough.
        for (int seed = 0; seed < RUNS && wrong < 3; seed++) {
            Checks.title("seed " + seed);
            ModelTest run = new ModelTest(seed);
            run.runAll();
            Checks.holds(run.log.toString(), run.good);
            wrong += run.good ? 0 : 1;
        }
        Checks.end();
    }

    private void runAll() {
        int begin = 2 + random.nextInt(5);
        for (int i = 0; i < begin; i++) {
            compare("station", random.nextInt(100), 1 + random.nextInt(8));
        }
        compare("rider", 0, 0);
        compare("van", 0, edge(7));
        while (good && calls < CALLS) {
            if (!toType.isEmpty()) {
                compare("type", toType.charAt(0), 0);
                toType = toType.substring(1);
            } else {
                step(NAMES[pick()]);
            }
        }
    }

    private int pick() {
        int all = 0;
        for (int weight : weights) {
            all += weight;
        }
        int at = random.nextInt(all);
        int i = 0;
        while (at >= weights[i]) {
            at -= weights[i];
            i++;
        }
        return i;
    }

    private void step(String name) {
        if (name.equals("type")) {
            if (random.nextInt(4) > 0) {
                compare("clearText", 0, 0);
            }
            toType = text();
            return;
        }
        int a = first(name);
        compare(name, a, second(name, a));
    }

    private int edge(int size) {
        return random.nextInt(30) == 0 ? (random.nextBoolean() ? -1 : size) : random.nextInt(size);
    }

    private int of(int countOf) {
        return edge(Math.max(1, bikes.count(countOf)));
    }

    private int first(String name) {
        switch (name) {
            case "station": return edge(100);
            case "bicycle": case "van": case "stationOf": return of(0);
            case "report": case "bicycleOf": return of(1);
            case "rent": return withRide(false);
            case "back": case "full": return withRide(true);
            case "pass": case "riderOf": return of(2);
            case "take": case "put": case "go": case "mend": case "vanOf": return of(3);
            case "pause": return longPauses || random.nextInt(4) == 0 ? edge(201) : 1 + random.nextInt(12);
            case "set": case "move": case "fault": return edge(3);
            default: return edge(23);
        }
    }

    private int second(String name, int a) {
        switch (name) {
            case "station": return edge(9);
            case "van": return edge(7);
            case "rent": return among(usable(), of(0));
            case "back": case "full": return of(0);
            case "go": return random.nextInt(3) == 0 ? 0 : of(0);
            case "take": return among(bikes.stationOf(bikes.vanOf(a, 0), 2), of(1));
            case "put": case "mend": return among(bikes.vanOf(a, 2), of(1));
            case "stationOf": case "bicycleOf": case "riderOf": case "vanOf": return edge(name.charAt(0) == 'v' ? 4 : 7);
            case "set": return random.nextBoolean() ? edge(100) : edge(1000);
            default: return edge(8);
        }
    }

    /** Mostly one of the set. */
    private int among(int set, int otherwise) {
        if (set <= 0 || random.nextInt(5) == 0) {
            return otherwise;
        }
        int number = random.nextInt(16);
        while ((set >> number & 1) == 0) {
            number = (number + 1) % 16;
        }
        return number;
    }

    private int withRide(boolean riding) {
        int set = 0;
        for (int r = 0; r < bikes.count(2); r++) {
            if (bikes.riderOf(r, 2) >= 0 == riding) {
                set |= 1 << r;
            }
        }
        return among(set, of(2));
    }

    private int usable() {
        int set = 0;
        for (int s = 0; s < bikes.count(0); s++) {
            if (bikes.stationOf(s, 2) != 0) {
                set |= 1 << s;
            }
        }
        return set;
    }

    private String text() {
        StringBuilder text = new StringBuilder();
        int commands = 1 + random.nextInt(3);
        for (int i = 0; i < commands; i++) {
            String word = WORDS[random.nextInt(WORDS.length)];
            String name = word.equals("fault") ? "report" : word.equals("wait") ? "pause" : word;
            int a = first(name);
            text.append(word).append(' ').append(number(a));
            if (!word.equals("fault") && !word.equals("wait") && !word.equals("pass")) {
                text.append(' ').append(number(second(name, a)));
            }
            text.append(';');
        }
        if (random.nextInt(12) == 0) {
            text.setCharAt(random.nextInt(text.length()), " ;0a9~".charAt(random.nextInt(6)));
        }
        return text.toString();
    }

    private String number(int value) {
        String ahead = random.nextInt(6) == 0 ? "00".substring(random.nextInt(2)) : "";
        return ahead + value;
    }

    private void compare(String name, int a, int b) {
        int got = Calls.ask(bikes, name, a, b);
        int want = model.call(name, a, b);
        calls++;
        log.append(name).append('(').append(a).append(", ").append(b).append(") = ").append(got).append('\n');
        if (got != want) {
            good = false;
            log.append("due is ").append(want);
        }
    }
}
