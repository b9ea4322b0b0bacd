import java.util.ArrayList;
import java.util.Arrays;
import java.util.Comparator;
import java.util.HashMap;
import java.util.HashSet;
import java.util.List;
import java.util.Map;
import java.util.Set;
import java.util.regex.Matcher;
import java.util.regex.Pattern;

/** The document told once more, in another way and without care for room: ModelTest compares with it. */
final class Model {
    private static final int INVALID = -1;
    private static final int IMPOSSIBLE = -2;
    private static final int LIMIT = -3;
    private static final int MISSING = -4;
    private static final Pattern COMMAND = Pattern.compile(
        "(?:(rent|back|full|take|put|go|mend) (\\d{1,3}) (\\d{1,3})|(fault|pass|wait) (\\d{1,3}));");

    private static final class Ride {
        int bicycle;
        int begun;
        int free;
        int extra;
        Set<Integer> told = new HashSet<>();

        Ride copy() {
            Ride other = new Ride();
            other.bicycle = bicycle;
            other.begun = begun;
            other.free = free;
            other.extra = extra;
            other.told = new HashSet<>(told);
            return other;
        }

        int fee(int time) {
            int over = time - begun - free;
            int coins = extra;
            while (over > 0) {
                coins++;
                over -= 5;
            }
            return coins;
        }
    }

    private static final class State {
        int time;
        int[] settings = {30, 60, 100};
        List<int[]> stations = new ArrayList<>(); // place, docks, began, ended
        List<int[]> bicycles = new ArrayList<>(); // where, holder, minutes, faulty, rides, ready
        List<int[]> riders = new ArrayList<>(); // owed, end of the pass, rides, coins for passes
        Map<Integer, Ride> rides = new HashMap<>();
        List<int[]> vans = new ArrayList<>(); // station, room, minutes left

        State copy() {
            State other = new State();
            other.time = time;
            other.settings = settings.clone();
            stations.forEach(s -> other.stations.add(s.clone()));
            bicycles.forEach(b -> other.bicycles.add(b.clone()));
            riders.forEach(r -> other.riders.add(r.clone()));
            rides.forEach((r, ride) -> other.rides.put(r, ride.copy()));
            vans.forEach(v -> other.vans.add(v.clone()));
            return other;
        }

        List<Integer> at(int where, int holder) {
            List<Integer> found = new ArrayList<>();
            for (int b = 0; b < bicycles.size(); b++) {
                if (bicycles.get(b)[0] == where && bicycles.get(b)[1] == holder) {
                    found.add(b);
                }
            }
            return found;
        }

        int docked(int station) {
            return at(0, station).size();
        }

        boolean free(int station) {
            return docked(station) < stations.get(station)[1];
        }

        int uneven(int station, int more) {
            return Math.abs(2 * (docked(station) + more) - stations.get(station)[1]);
        }

        int minute() {
            time++;
            for (int[] van : vans) {
                van[2] = Math.max(0, van[2] - 1);
            }
            int out = 0;
            for (int[] b : bicycles) {
                if (b[0] != 3 || b[5] > time) {
                    continue;
                }
                b[2] = 0;
                b[3] = 0;
                for (int s = 0; s < stations.size() && b[0] == 3; s++) {
                    if (free(s)) {
                        b[0] = 0;
                        b[1] = s;
                        out++;
                    }
                }
            }
            return out;
        }

        int[] aims() {
            int docks = stations.stream().mapToInt(s -> s[1]).sum();
            int all = (int) bicycles.stream().filter(b -> b[0] == 0).count();
            int[] aims = stations.stream().mapToInt(s -> s[1] * all / docks).toArray();
            int left = all - Arrays.stream(aims).sum();
            for (int s = 0; left > 0; s++) {
                aims[s]++;
                left--;
            }
            return aims;
        }
    }

    private State now = new State();
    private State kept = null;
    private final List<State> history = new ArrayList<>();
    private final StringBuilder text = new StringBuilder();

    /** A call by its name; its arguments stand in a and b as far as it has them. */
    int call(String name, int a, int b) {
        switch (name) {
            case "stationOf": return stationOf(a, b);
            case "bicycleOf": return bicycleOf(a, b);
            case "riderOf": return riderOf(a, b);
            case "vanOf": return vanOf(a, b);
            case "count": return count(a);
            case "move": return move(a);
            case "evening": return evening();
            case "keep": kept = now.copy(); return now.time;
            case "undo": return undo();
            case "type": return type(a);
            case "clearText": int length = text.length(); text.setLength(0); return length;
            case "fault": return fault(a);
            case "play": return play();
            default: return change(name, a, b);
        }
    }

    private int change(String name, int a, int b) {
        State before = now.copy();
        int answer;
        if (name.equals("restore")) {
            answer = kept == null ? IMPOSSIBLE : kept.time;
            now = kept == null ? now : kept.copy();
        } else {
            answer = changeState(now, name, a, b);
        }
        if (answer < 0) {
            now = before;
        } else {
            remember(before);
        }
        return answer;
    }

    private void remember(State before) {
        history.add(before);
        if (history.size() == 5) {
            history.remove(0);
        }
    }

    private int undo() {
        if (history.isEmpty()) {
            return IMPOSSIBLE;
        }
        now = history.remove(history.size() - 1);
        return history.size();
    }

    private static boolean in(int value, int low, int high) {
        return low <= value && value <= high;
    }

    private static boolean no(List<int[]> things, int number) {
        return !in(number, 0, things.size() - 1);
    }

    private static int changeState(State s, String name, int a, int b) {
        switch (name) {
            case "station":
                if (!in(a, 0, 99) || !in(b, 1, 8)) return INVALID;
                if (s.stations.size() == 6) return LIMIT;
                s.stations.add(new int[] {a, b, 0, 0});
                return s.stations.size() - 1;
            case "bicycle":
                if (no(s.stations, a)) return INVALID;
                if (!s.free(a)) return IMPOSSIBLE;
                if (s.bicycles.size() == 16) return LIMIT;
                s.bicycles.add(new int[] {0, a, 0, 0, 0, 0});
                return s.bicycles.size() - 1;
            case "rider":
                if (s.riders.size() == 8) return LIMIT;
                s.riders.add(new int[4]);
                return s.riders.size() - 1;
            case "van":
                if (no(s.stations, a) || !in(b, 1, 6)) return INVALID;
                if (s.vans.size() == 2) return LIMIT;
                s.vans.add(new int[] {a, b, 0});
                return s.vans.size() - 1;
            case "set":
                int[][] ranges = {{0, 99}, {1, 999}, {0, 999}};
                if (!in(a, 0, 2) || !in(b, ranges[a][0], ranges[a][1])) return INVALID;
                int was = s.settings[a];
                s.settings[a] = b;
                return was;
            default:
                return command(s, name, a, b);
        }
    }

    private static int command(State s, String name, int a, int b) {
        switch (name) {
            case "pass":
                if (no(s.riders, a)) return INVALID;
                int[] rider = s.riders.get(a);
                int end = (rider[1] > s.time ? rider[1] : s.time) + 1000;
                if (end > 20000) return LIMIT;
                rider[0] += s.settings[2];
                rider[1] = end;
                rider[3] += s.settings[2];
                return end;
            case "report":
                if (no(s.bicycles, a)) return INVALID;
                if (s.bicycles.get(a)[0] > 1 || s.bicycles.get(a)[3] == 1) return IMPOSSIBLE;
                s.bicycles.get(a)[3] = 1;
                return (int) s.bicycles.stream().filter(x -> x[3] == 1).count();
            case "pause":
                if (!in(a, 1, 200)) return INVALID;
                if (s.time + a > 9000) return LIMIT;
                int out = 0;
                for (int i = 0; i < a; i++) out += s.minute();
                return out;
            case "rent": case "back": case "full":
                return no(s.riders, a) || no(s.stations, b) ? INVALID : riding(s, name, a, b);
            case "go":
                if (no(s.vans, a) || no(s.stations, b)) return INVALID;
                int[] van = s.vans.get(a);
                if (van[2] > 0 || van[0] == b) return IMPOSSIBLE;
                van[2] = Math.abs(s.stations.get(van[0])[0] - s.stations.get(b)[0]) / 2 + 1;
                van[0] = b;
                return s.time + van[2];
            default:
                return no(s.vans, a) || no(s.bicycles, b) ? INVALID : carrying(s, name, a, b);
        }
    }

    private static int riding(State s, String name, int r, int station) {
        Ride ride = s.rides.get(r);
        int[] rider = s.riders.get(r);
        if (name.equals("rent")) {
            List<Integer> fit = s.at(0, station);
            fit.removeIf(b -> s.bicycles.get(b)[3] == 1);
            if (ride != null || fit.isEmpty()) return IMPOSSIBLE;
            fit.sort(Comparator.comparing((Integer b) -> s.bicycles.get(b)[2]).thenComparing(b -> b));
            ride = new Ride();
            ride.bicycle = fit.get(0);
            ride.begun = s.time;
            ride.free = rider[1] > s.time ? s.settings[0] : 0;
            ride.extra = rider[1] > s.time ? 0 : 1;
            s.rides.put(r, ride);
            s.bicycles.get(ride.bicycle)[0] = 1;
            s.bicycles.get(ride.bicycle)[1] = r;
            s.stations.get(station)[2]++;
            return ride.bicycle;
        }
        if (ride == null) return IMPOSSIBLE;
        if (name.equals("full")) {
            if (s.free(station) || !ride.told.add(station)) return IMPOSSIBLE;
            return ride.free += 15;
        }
        if (!s.free(station)) return IMPOSSIBLE;
        int fee = ride.fee(s.time);
        int[] bicycle = s.bicycles.get(ride.bicycle);
        bicycle[0] = 0;
        bicycle[1] = station;
        bicycle[2] += s.time - ride.begun;
        bicycle[4]++;
        rider[0] += fee;
        rider[2]++;
        s.stations.get(station)[3]++;
        s.rides.remove(r);
        return fee;
    }

    private static int carrying(State s, String name, int v, int number) {
        int[] van = s.vans.get(v);
        int[] bicycle = s.bicycles.get(number);
        if (van[2] > 0) return IMPOSSIBLE;
        if (name.equals("take")) {
            if (s.at(2, v).size() >= van[1] || !s.at(0, van[0]).contains(number)) return IMPOSSIBLE;
            bicycle[0] = 2;
            bicycle[1] = v;
            return s.at(2, v).size();
        }
        if (!s.at(2, v).contains(number)) return IMPOSSIBLE;
        if (name.equals("put")) {
            if (!s.free(van[0])) return IMPOSSIBLE;
            bicycle[0] = 0;
            bicycle[1] = van[0];
            return s.at(2, v).size();
        }
        if (van[0] != 0) return IMPOSSIBLE;
        bicycle[0] = 3;
        bicycle[1] = -1;
        bicycle[5] = s.time + s.settings[1];
        return bicycle[5];
    }

    private static int bits(List<Integer> numbers) {
        return numbers.stream().mapToInt(n -> 1 << n).sum();
    }

    private int stationOf(int station, int what) {
        if (no(now.stations, station) || !in(what, 0, 6)) return INVALID;
        int[] s = now.stations.get(station);
        int[] answers = {s[0], s[1], bits(now.at(0, station)), now.uneven(station, 0), now.aims()[station], s[2], s[3]};
        return answers[what];
    }

    private int bicycleOf(int bicycle, int what) {
        if (no(now.bicycles, bicycle) || !in(what, 0, 4)) return INVALID;
        int[] b = now.bicycles.get(bicycle);
        return what == 1 && b[0] == 3 ? MISSING : b[what];
    }

    private int riderOf(int rider, int what) {
        if (no(now.riders, rider) || !in(what, 0, 7)) return INVALID;
        int[] r = now.riders.get(rider);
        Ride ride = now.rides.get(rider);
        if (what < 2 || what > 5) {
            int[] answers = {r[0], r[1] > now.time ? r[1] - now.time : 0, 0, 0, 0, 0, r[2], r[3]};
            return answers[what];
        }
        if (ride == null) return MISSING;
        int[] answers = {ride.bicycle, now.time - ride.begun, ride.free, ride.fee(now.time)};
        return answers[what - 2];
    }

    private int vanOf(int van, int what) {
        if (no(now.vans, van) || !in(what, 0, 3)) return INVALID;
        int[] v = now.vans.get(van);
        int[] answers = {v[0], v[1], bits(now.at(2, van)), v[2]};
        return answers[what];
    }

    private int count(int what) {
        if (in(what, 20, 22)) return now.settings[what - 20];
        if (!in(what, 0, 15)) return INVALID;
        int[] where = new int[4];
        now.bicycles.forEach(b -> where[b[0]]++);
        int uneven = 0;
        for (int s = 0; s < now.stations.size(); s++) {
            uneven += now.uneven(s, 0);
        }
        int[] answers = {now.stations.size(), now.bicycles.size(), now.riders.size(), now.vans.size(), now.time,
            where[0], where[1], where[2], where[3], now.bicycles.stream().mapToInt(b -> b[3]).sum(),
            now.stations.stream().mapToInt(s -> s[1]).sum(), now.riders.stream().mapToInt(r -> r[0]).sum(),
            uneven, history.size(), text.length(), kept == null ? 0 : 1};
        return answers[what];
    }

    private int move(int what) {
        if (!in(what, 0, 2)) return INVALID;
        List<int[]> moves = new ArrayList<>();
        for (int from = 0; from < now.stations.size(); from++) {
            for (int to = 0; to < now.stations.size(); to++) {
                if (from != to && now.docked(from) > 0 && now.free(to)) {
                    int help = now.uneven(from, 0) + now.uneven(to, 0) - now.uneven(from, -1) - now.uneven(to, 1);
                    moves.add(new int[] {from, to, help, Math.abs(now.stations.get(from)[0] - now.stations.get(to)[0])});
                }
            }
        }
        moves.removeIf(m -> m[2] < 1);
        moves.sort(Comparator.comparing((int[] m) -> -m[2]).thenComparing(m -> m[3])
            .thenComparing(m -> m[0]).thenComparing(m -> m[1]));
        return moves.isEmpty() ? MISSING : moves.get(0)[what];
    }

    /** Tries all ways to give single bicycles that are too many to single docks that miss one. */
    private int evening() {
        if (now.stations.isEmpty()) return MISSING;
        int[] aims = now.aims();
        List<Integer> from = new ArrayList<>();
        List<Integer> to = new ArrayList<>();
        for (int s = 0; s < aims.length; s++) {
            int place = now.stations.get(s)[0];
            for (int i = aims[s]; i < now.docked(s); i++) from.add(place);
            for (int i = now.docked(s); i < aims[s]; i++) to.add(place);
        }
        int[] least = new int[1 << to.size()];
        Arrays.fill(least, Integer.MAX_VALUE);
        least[0] = 0;
        for (int given = 0; given < least.length - 1; given++) {
            for (int t = 0; t < to.size() && least[given] < Integer.MAX_VALUE; t++) {
                int next = given | 1 << t;
                if (next != given) {
                    int way = Math.abs(from.get(Integer.bitCount(given)) - to.get(t));
                    least[next] = Math.min(least[next], least[given] + way);
                }
            }
        }
        return least[least.length - 1];
    }

    private int type(int character) {
        if (!in(character, 32, 126)) return INVALID;
        if (text.length() == 60) return LIMIT;
        text.append((char) character);
        return text.length();
    }

    /** Position, reason and cause; only the number of commands if there is no fault. */
    private int[] runText(State s) {
        Matcher matcher = COMMAND.matcher(text);
        int position = 0;
        int commands = 0;
        while (position < text.length()) {
            matcher.region(position, text.length());
            if (!matcher.lookingAt()) return new int[] {position, 1, MISSING};
            boolean two = matcher.group(1) != null;
            String word = two ? matcher.group(1) : matcher.group(4);
            String name = word.equals("fault") ? "report" : word.equals("wait") ? "pause" : word;
            int first = Integer.parseInt(matcher.group(two ? 2 : 5));
            int answer = command(s, name, first, two ? Integer.parseInt(matcher.group(3)) : 0);
            if (answer < 0) return new int[] {position, 2, answer};
            position = matcher.end();
            commands++;
        }
        return new int[] {commands};
    }

    private int fault(int what) {
        if (!in(what, 0, 2)) return INVALID;
        int[] fault = runText(now.copy());
        return fault.length == 1 ? MISSING : fault[what];
    }

    private int play() {
        State then = now.copy();
        int[] fault = runText(then);
        if (fault.length > 1) return IMPOSSIBLE;
        remember(now);
        now = then;
        return fault[0];
    }
}
