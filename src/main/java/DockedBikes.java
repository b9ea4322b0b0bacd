/** Shared bicycles along a road: what ../shared/DOC.md promises, inside ../shared/LANGUAGE.md. */
public final class DockedBikes {
    public static final int INVALID_ARGUMENT = -1;
    public static final int NOT_POSSIBLE = -2;
    public static final int LIMIT_REACHED = -3;
    public static final int NOT_FOUND = -4;

    private static final int FIRST_SETTING_COUNT = 20;

    private final Road now;
    // Every change is tried here first, so that one which fails leaves nothing behind.
    private final Road draft;
    private final Road snapshot;
    private boolean hasSnapshot;
    private final History history;
    private final Filling filling;
    private final Text text;

    public DockedBikes() {
        now = new Road();
        draft = new Road();
        snapshot = new Road();
        history = new History();
        filling = new Filling();
        text = new Text();
    }

    public int station(int place, int docks) {
        return settle(freshDraft().addStation(place, docks));
    }

    public int bicycle(int station) {
        return settle(freshDraft().addBicycle(station));
    }

    public int rider() {
        return settle(freshDraft().addRider());
    }

    public int van(int station, int room) {
        return settle(freshDraft().addVan(station, room));
    }

    public int pass(int rider) {
        return settle(freshDraft().sellPass(rider));
    }

    public int rent(int rider, int station) {
        return settle(freshDraft().beginRide(rider, station));
    }

    public int back(int rider, int station) {
        return settle(freshDraft().endRide(rider, station));
    }

    public int full(int rider, int station) {
        return settle(freshDraft().tellFull(rider, station));
    }

    public int report(int bicycle) {
        return settle(freshDraft().tellFaulty(bicycle));
    }

    public int take(int van, int bicycle) {
        return settle(freshDraft().load(van, bicycle));
    }

    public int put(int van, int bicycle) {
        return settle(freshDraft().unload(van, bicycle));
    }

    public int go(int van, int station) {
        return settle(freshDraft().sendVan(van, station));
    }

    public int mend(int van, int bicycle) {
        return settle(freshDraft().handOver(van, bicycle));
    }

    public int pause(int minutes) {
        return settle(freshDraft().letGoBy(minutes));
    }

    public int set(int what, int value) {
        return settle(freshDraft().changeSetting(what, value));
    }

    public int stationOf(int station, int what) {
        if (!now.stations.has(station)) {
            return INVALID_ARGUMENT;
        }
        switch (what) {
            case 0: return now.stations.place[station];
            case 1: return now.stations.docks[station];
            case 2: return now.bicycles.setAt(Bicycles.DOCKED, station);
            case 3: return now.unevenness(station);
            case 4: return filling.aim(now, station);
            case 5: return now.stations.began[station];
            case 6: return now.stations.ended[station];
            default: return INVALID_ARGUMENT;
        }
    }

    public int bicycleOf(int bicycle, int what) {
        if (!now.bicycles.has(bicycle)) {
            return INVALID_ARGUMENT;
        }
        switch (what) {
            case 0: return now.bicycles.where[bicycle];
            case 1: return now.bicycles.holderOrNotFound(bicycle);
            case 2: return now.bicycles.minutes[bicycle];
            case 3: return now.bicycles.faulty[bicycle];
            case 4: return now.bicycles.rides[bicycle];
            default: return INVALID_ARGUMENT;
        }
    }

    public int riderOf(int rider, int what) {
        if (!now.riders.has(rider) || what < 0 || what > 7) {
            return INVALID_ARGUMENT;
        }
        if (what >= 2 && what <= 5) {
            return now.riders.hasRide(rider) ? rideOf(rider, what) : NOT_FOUND;
        }
        switch (what) {
            case 0: return now.riders.owed[rider];
            case 1: return Math.max(0, now.riders.passEnd[rider] - now.time);
            case 6: return now.riders.rides[rider];
            default: return now.riders.passCoins[rider];
        }
    }

    public int vanOf(int van, int what) {
        if (!now.vans.has(van)) {
            return INVALID_ARGUMENT;
        }
        switch (what) {
            case 0: return now.vans.station[van];
            case 1: return now.vans.room[van];
            case 2: return now.bicycles.setAt(Bicycles.IN_VAN, van);
            case 3: return now.vans.minutesLeft(van, now.time);
            default: return INVALID_ARGUMENT;
        }
    }

    public int count(int what) {
        if (now.isSetting(what - FIRST_SETTING_COUNT)) {
            return now.settings[what - FIRST_SETTING_COUNT];
        }
        switch (what) {
            case 0: return now.stations.size;
            case 1: return now.bicycles.size;
            case 2: return now.riders.size;
            case 3: return now.vans.size;
            case 4: return now.time;
            case 5: return now.bicycles.countWhere(Bicycles.DOCKED);
            case 6: return now.bicycles.countWhere(Bicycles.RIDDEN);
            case 7: return now.bicycles.countWhere(Bicycles.IN_VAN);
            case 8: return now.bicycles.countWhere(Bicycles.IN_WORKSHOP);
            case 9: return now.bicycles.countFaulty();
            case 10: return now.stations.allDocks();
            case 11: return now.riders.allOwed();
            case 12: return now.allUnevenness();
            case 13: return history.size;
            case 14: return text.length;
            case 15: return hasSnapshot ? 1 : 0;
            default: return INVALID_ARGUMENT;
        }
    }

    public int move(int what) {
        if (what < 0 || what > 2) {
            return INVALID_ARGUMENT;
        }
        if (!filling.findMove(now)) {
            return NOT_FOUND;
        }
        switch (what) {
            case 0: return filling.from;
            case 1: return filling.to;
            default: return filling.help;
        }
    }

    public int evening() {
        return now.stations.size == 0 ? NOT_FOUND : filling.leastWay(now);
    }

    public int keep() {
        snapshot.copy(now);
        hasSnapshot = true;
        return now.time;
    }

    public int restore() {
        if (!hasSnapshot) {
            return NOT_POSSIBLE;
        }
        draft.copy(snapshot);
        return settle(draft.time);
    }

    public int undo() {
        return history.takeLatest(now) ? history.size : NOT_POSSIBLE;
    }

    public int type(int character) {
        return text.append(character);
    }

    public int clearText() {
        return text.empty();
    }

    public int fault(int what) {
        if (what < 0 || what > 2) {
            return INVALID_ARGUMENT;
        }
        text.tryOn(freshDraft());
        return text.aboutFault(what);
    }

    public int play() {
        text.tryOn(freshDraft());
        return text.hasFault() ? NOT_POSSIBLE : settle(text.commands);
    }

    private int rideOf(int rider, int what) {
        switch (what) {
            case 2: return now.riders.bicycle[rider];
            case 3: return now.riders.rideMinutes(rider, now.time);
            case 4: return now.riders.free[rider];
            default: return now.riders.fee(rider, now.time);
        }
    }

    private Road freshDraft() {
        draft.copy(now);
        return draft;
    }

    private int settle(int answer) {
        if (answer >= 0) {
            history.record(now);
            now.copy(draft);
        }
        return answer;
    }

    private static final class Stations {
        static final int LIMIT = 6;
        static final int LAST_PLACE = 99;
        static final int MOST_DOCKS = 8;

        int size;
        final int[] place = new int[LIMIT];
        final int[] docks = new int[LIMIT];
        final int[] began = new int[LIMIT];
        final int[] ended = new int[LIMIT];

        void copy(Stations other) {
            size = other.size;
            System.arraycopy(other.place, 0, place, 0, LIMIT);
            System.arraycopy(other.docks, 0, docks, 0, LIMIT);
            System.arraycopy(other.began, 0, began, 0, LIMIT);
            System.arraycopy(other.ended, 0, ended, 0, LIMIT);
        }

        boolean has(int number) {
            return number >= 0 && number < size;
        }

        int add(int newPlace, int newDocks) {
            if (size >= LIMIT) {
                return LIMIT_REACHED;
            }
            place[size] = newPlace;
            docks[size] = newDocks;
            size++;
            return size - 1;
        }

        int way(int from, int to) {
            return has(from) && has(to) ? Math.abs(place[from] - place[to]) : 0;
        }

        int allDocks() {
            int sum = 0;
            for (int s = 0; s < size; s++) {
                sum += docks[s];
            }
            return sum;
        }
    }

    private static final class Bicycles {
        static final int LIMIT = 16;
        static final int DOCKED = 0;
        static final int RIDDEN = 1;
        static final int IN_VAN = 2;
        static final int IN_WORKSHOP = 3;
        static final int NO_HOLDER = -1;

        int size;
        final int[] where = new int[LIMIT];
        // The number of the station, rider or van, as "where" says.
        final int[] holder = new int[LIMIT];
        final int[] minutes = new int[LIMIT];
        final int[] faulty = new int[LIMIT];
        final int[] rides = new int[LIMIT];
        // The time at which the workshop is through with it.
        final int[] ready = new int[LIMIT];

        void copy(Bicycles other) {
            size = other.size;
            System.arraycopy(other.where, 0, where, 0, LIMIT);
            System.arraycopy(other.holder, 0, holder, 0, LIMIT);
            System.arraycopy(other.minutes, 0, minutes, 0, LIMIT);
            System.arraycopy(other.faulty, 0, faulty, 0, LIMIT);
            System.arraycopy(other.rides, 0, rides, 0, LIMIT);
            System.arraycopy(other.ready, 0, ready, 0, LIMIT);
        }

        boolean has(int number) {
            return number >= 0 && number < size;
        }

        int add(int station) {
            if (size >= LIMIT) {
                return LIMIT_REACHED;
            }
            where[size] = DOCKED;
            holder[size] = station;
            size++;
            return size - 1;
        }

        boolean isAt(int number, int place, int whose) {
            return has(number) && where[number] == place && holder[number] == whose;
        }

        int holderOrNotFound(int number) {
            return has(number) && where[number] != IN_WORKSHOP ? holder[number] : NOT_FOUND;
        }

        void bring(int number, int place, int whose) {
            if (has(number)) {
                where[number] = place;
                holder[number] = whose;
            }
        }

        int countWhere(int place) {
            int sum = 0;
            for (int b = 0; b < size; b++) {
                if (where[b] == place) {
                    sum++;
                }
            }
            return sum;
        }

        int setAt(int place, int whose) {
            int set = 0;
            for (int b = 0; b < size; b++) {
                if (where[b] == place && holder[b] == whose) {
                    set |= 1 << b;
                }
            }
            return set;
        }

        int countAt(int place, int whose) {
            int sum = 0;
            for (int b = 0; b < size; b++) {
                if (where[b] == place && holder[b] == whose) {
                    sum++;
                }
            }
            return sum;
        }

        int countFaulty() {
            int sum = 0;
            for (int b = 0; b < size; b++) {
                sum += faulty[b];
            }
            return sum;
        }

        /** The one to rent at a station, or -1. */
        int leastRiddenAt(int station) {
            int best = -1;
            for (int b = 0; b < size; b++) {
                boolean fit = isAt(b, DOCKED, station) && faulty[b] == 0;
                if (fit && (best < 0 || minutes[b] < minutes[best])) {
                    best = b;
                }
            }
            return best;
        }

        boolean isReady(int number, int time) {
            return has(number) && where[number] == IN_WORKSHOP && ready[number] <= time;
        }

        void renew(int number) {
            if (has(number)) {
                faulty[number] = 0;
                minutes[number] = 0;
            }
        }
    }

    private static final class Riders {
        static final int LIMIT = 8;
        static final int NO_RIDE = -1;
        static final int FEE_MINUTES = 5;

        int size;
        final int[] owed = new int[LIMIT];
        final int[] passEnd = new int[LIMIT];
        final int[] passCoins = new int[LIMIT];
        final int[] rides = new int[LIMIT];
        final int[] bicycle = new int[LIMIT];
        final int[] start = new int[LIMIT];
        final int[] free = new int[LIMIT];
        // The coin for a ride that began without a pass: a pass bought later does not take it away.
        final int[] ground = new int[LIMIT];
        final int[] told = new int[LIMIT];

        void copy(Riders other) {
            size = other.size;
            System.arraycopy(other.owed, 0, owed, 0, LIMIT);
            System.arraycopy(other.passEnd, 0, passEnd, 0, LIMIT);
            System.arraycopy(other.passCoins, 0, passCoins, 0, LIMIT);
            System.arraycopy(other.rides, 0, rides, 0, LIMIT);
            System.arraycopy(other.bicycle, 0, bicycle, 0, LIMIT);
            System.arraycopy(other.start, 0, start, 0, LIMIT);
            System.arraycopy(other.free, 0, free, 0, LIMIT);
            System.arraycopy(other.ground, 0, ground, 0, LIMIT);
            System.arraycopy(other.told, 0, told, 0, LIMIT);
        }

        boolean has(int number) {
            return number >= 0 && number < size;
        }

        int add() {
            if (size >= LIMIT) {
                return LIMIT_REACHED;
            }
            bicycle[size] = NO_RIDE;
            size++;
            return size - 1;
        }

        boolean hasRide(int number) {
            return has(number) && bicycle[number] != NO_RIDE;
        }

        int rideMinutes(int number, int time) {
            return has(number) ? time - start[number] : 0;
        }

        int fee(int number, int time) {
            if (!hasRide(number)) {
                return 0;
            }
            int paid = Math.max(0, rideMinutes(number, time) - free[number]);
            return (paid + FEE_MINUTES - 1) / FEE_MINUTES + ground[number];
        }

        int allOwed() {
            int sum = 0;
            for (int r = 0; r < size; r++) {
                sum += owed[r];
            }
            return sum;
        }
    }

    private static final class Vans {
        static final int LIMIT = 2;
        static final int MOST_ROOM = 6;

        int size;
        final int[] station = new int[LIMIT];
        final int[] room = new int[LIMIT];
        final int[] arrival = new int[LIMIT];

        void copy(Vans other) {
            size = other.size;
            System.arraycopy(other.station, 0, station, 0, LIMIT);
            System.arraycopy(other.room, 0, room, 0, LIMIT);
            System.arraycopy(other.arrival, 0, arrival, 0, LIMIT);
        }

        boolean has(int number) {
            return number >= 0 && number < size;
        }

        int add(int newStation, int newRoom) {
            if (size >= LIMIT) {
                return LIMIT_REACHED;
            }
            station[size] = newStation;
            room[size] = newRoom;
            size++;
            return size - 1;
        }

        int minutesLeft(int number, int time) {
            return has(number) ? Math.max(0, arrival[number] - time) : 0;
        }
    }

    /** All that a state of the history or the snapshot holds, and the changes of it. */
    private static final class Road {
        static final int FREE_MINUTES = 0;
        static final int WORKSHOP_MINUTES = 1;
        static final int PASS_COINS = 2;
        static final int SETTINGS = 3;
        static final int MOST_FREE_MINUTES = 99;
        static final int MOST_SETTING = 999;
        static final int PASS_MINUTES = 1000;
        static final int LAST_PASS_END = 20000;
        static final int FULL_MINUTES = 15;
        static final int WORKSHOP_STATION = 0;
        static final int MOST_PAUSE = 200;
        static final int LAST_TIME = 9000;

        final Stations stations = new Stations();
        final Bicycles bicycles = new Bicycles();
        final Riders riders = new Riders();
        final Vans vans = new Vans();
        final int[] settings = {30, 60, 100};
        int time;

        void copy(Road other) {
            stations.copy(other.stations);
            bicycles.copy(other.bicycles);
            riders.copy(other.riders);
            vans.copy(other.vans);
            System.arraycopy(other.settings, 0, settings, 0, SETTINGS);
            time = other.time;
        }

        int addStation(int place, int docks) {
            if (place < 0 || place > Stations.LAST_PLACE || docks < 1 || docks > Stations.MOST_DOCKS) {
                return INVALID_ARGUMENT;
            }
            return stations.add(place, docks);
        }

        int addBicycle(int station) {
            if (!stations.has(station)) {
                return INVALID_ARGUMENT;
            }
            return hasFreeDock(station) ? bicycles.add(station) : NOT_POSSIBLE;
        }

        int addRider() {
            return riders.add();
        }

        int addVan(int station, int room) {
            if (!stations.has(station) || room < 1 || room > Vans.MOST_ROOM) {
                return INVALID_ARGUMENT;
            }
            return vans.add(station, room);
        }

        int sellPass(int rider) {
            if (!riders.has(rider)) {
                return INVALID_ARGUMENT;
            }
            int end = Math.max(time, riders.passEnd[rider]) + PASS_MINUTES;
            if (end > LAST_PASS_END) {
                return LIMIT_REACHED;
            }
            riders.passEnd[rider] = end;
            riders.passCoins[rider] += settings[PASS_COINS];
            riders.owed[rider] += settings[PASS_COINS];
            return end;
        }

        int beginRide(int rider, int station) {
            if (!riders.has(rider) || !stations.has(station)) {
                return INVALID_ARGUMENT;
            }
            int bicycle = bicycles.leastRiddenAt(station);
            if (riders.hasRide(rider) || !bicycles.has(bicycle)) {
                return NOT_POSSIBLE;
            }
            boolean pass = time < riders.passEnd[rider];
            riders.bicycle[rider] = bicycle;
            riders.start[rider] = time;
            riders.free[rider] = pass ? settings[FREE_MINUTES] : 0;
            riders.ground[rider] = pass ? 0 : 1;
            riders.told[rider] = 0;
            bicycles.bring(bicycle, Bicycles.RIDDEN, rider);
            stations.began[station]++;
            return bicycle;
        }

        int endRide(int rider, int station) {
            if (!riders.has(rider) || !stations.has(station)) {
                return INVALID_ARGUMENT;
            }
            int bicycle = riders.bicycle[rider];
            if (!bicycles.has(bicycle) || !hasFreeDock(station)) {
                return NOT_POSSIBLE;
            }
            int fee = riders.fee(rider, time);
            bicycles.minutes[bicycle] += riders.rideMinutes(rider, time);
            bicycles.rides[bicycle]++;
            bicycles.bring(bicycle, Bicycles.DOCKED, station);
            riders.owed[rider] += fee;
            riders.rides[rider]++;
            riders.bicycle[rider] = Riders.NO_RIDE;
            stations.ended[station]++;
            return fee;
        }

        int tellFull(int rider, int station) {
            if (!riders.has(rider) || !stations.has(station)) {
                return INVALID_ARGUMENT;
            }
            boolean told = (riders.told[rider] & 1 << station) != 0;
            if (!riders.hasRide(rider) || hasFreeDock(station) || told) {
                return NOT_POSSIBLE;
            }
            riders.told[rider] |= 1 << station;
            riders.free[rider] += FULL_MINUTES;
            return riders.free[rider];
        }

        int tellFaulty(int bicycle) {
            if (!bicycles.has(bicycle)) {
                return INVALID_ARGUMENT;
            }
            int where = bicycles.where[bicycle];
            boolean inUse = where == Bicycles.DOCKED || where == Bicycles.RIDDEN;
            if (!inUse || bicycles.faulty[bicycle] != 0) {
                return NOT_POSSIBLE;
            }
            bicycles.faulty[bicycle] = 1;
            return bicycles.countFaulty();
        }

        int load(int van, int bicycle) {
            if (!vans.has(van) || !bicycles.has(bicycle)) {
                return INVALID_ARGUMENT;
            }
            int loaded = bicycles.countAt(Bicycles.IN_VAN, van);
            boolean here = bicycles.isAt(bicycle, Bicycles.DOCKED, vans.station[van]);
            if (isUnderWay(van) || loaded >= vans.room[van] || !here) {
                return NOT_POSSIBLE;
            }
            bicycles.bring(bicycle, Bicycles.IN_VAN, van);
            return loaded + 1;
        }

        int unload(int van, int bicycle) {
            if (!vans.has(van) || !bicycles.has(bicycle)) {
                return INVALID_ARGUMENT;
            }
            int station = vans.station[van];
            if (!canHandOut(van, bicycle) || !hasFreeDock(station)) {
                return NOT_POSSIBLE;
            }
            bicycles.bring(bicycle, Bicycles.DOCKED, station);
            return bicycles.countAt(Bicycles.IN_VAN, van);
        }

        int sendVan(int van, int station) {
            if (!vans.has(van) || !stations.has(station)) {
                return INVALID_ARGUMENT;
            }
            if (isUnderWay(van) || vans.station[van] == station) {
                return NOT_POSSIBLE;
            }
            int arrival = time + stations.way(vans.station[van], station) / 2 + 1;
            vans.station[van] = station;
            vans.arrival[van] = arrival;
            return arrival;
        }

        int handOver(int van, int bicycle) {
            if (!vans.has(van) || !bicycles.has(bicycle)) {
                return INVALID_ARGUMENT;
            }
            if (!canHandOut(van, bicycle) || vans.station[van] != WORKSHOP_STATION) {
                return NOT_POSSIBLE;
            }
            bicycles.bring(bicycle, Bicycles.IN_WORKSHOP, Bicycles.NO_HOLDER);
            bicycles.ready[bicycle] = time + settings[WORKSHOP_MINUTES];
            return bicycles.ready[bicycle];
        }

        int letGoBy(int minutes) {
            if (minutes < 1 || minutes > MOST_PAUSE) {
                return INVALID_ARGUMENT;
            }
            if (time + minutes > LAST_TIME) {
                return LIMIT_REACHED;
            }
            int out = 0;
            for (int m = 0; m < minutes; m++) {
                // Vans need no step of their own: one is under way while its arrival lies ahead.
                time++;
                out += dockReadyBicycles();
            }
            return out;
        }

        int changeSetting(int what, int value) {
            if (!isSetting(what)) {
                return INVALID_ARGUMENT;
            }
            int least = what == WORKSHOP_MINUTES ? 1 : 0;
            int most = what == FREE_MINUTES ? MOST_FREE_MINUTES : MOST_SETTING;
            if (value < least || value > most) {
                return INVALID_ARGUMENT;
            }
            int old = settings[what];
            settings[what] = value;
            return old;
        }

        boolean isSetting(int what) {
            return what >= 0 && what < SETTINGS;
        }

        int docked(int station) {
            return bicycles.countAt(Bicycles.DOCKED, station);
        }

        boolean hasFreeDock(int station) {
            return stations.has(station) && docked(station) < stations.docks[station];
        }

        int unevenness(int station) {
            return stations.has(station) ? Math.abs(2 * docked(station) - stations.docks[station]) : 0;
        }

        int allUnevenness() {
            int sum = 0;
            for (int s = 0; s < stations.size; s++) {
                sum += unevenness(s);
            }
            return sum;
        }

        private boolean isUnderWay(int van) {
            return vans.has(van) && vans.arrival[van] > time;
        }

        private boolean canHandOut(int van, int bicycle) {
            return !isUnderWay(van) && bicycles.isAt(bicycle, Bicycles.IN_VAN, van);
        }

        private int dockReadyBicycles() {
            int out = 0;
            for (int b = 0; b < bicycles.size; b++) {
                if (bicycles.isReady(b, time)) {
                    bicycles.renew(b);
                    int station = firstWithFreeDock();
                    if (station >= 0) {
                        bicycles.bring(b, Bicycles.DOCKED, station);
                        out++;
                    }
                }
            }
            return out;
        }

        private int firstWithFreeDock() {
            for (int s = 0; s < stations.size; s++) {
                if (bicycles.countAt(Bicycles.DOCKED, s) < stations.docks[s]) {
                    return s;
                }
            }
            return -1;
        }
    }

    /** What should be moved; its rows are made once and used again by each call. */
    private static final class Filling {
        int from;
        int to;
        int help;
        private int way;
        private final int[] aims = new int[Stations.LIMIT];
        private final int[] surplus = new int[Stations.LIMIT];

        int aim(Road road, int station) {
            findAims(road);
            return road.stations.has(station) ? aims[station] : 0;
        }

        /** Looks for the move that helps most; false if none helps. */
        boolean findMove(Road road) {
            from = -1;
            to = -1;
            help = 0;
            way = 0;
            for (int s = 0; s < road.stations.size; s++) {
                for (int t = 0; t < road.stations.size; t++) {
                    if (s != t && road.docked(s) > 0 && road.hasFreeDock(t)) {
                        weigh(road, s, t);
                    }
                }
            }
            return help > 0;
        }

        /** What crosses a spot of the road is at least what is too much on one side of it, and need not be more. */
        int leastWay(Road road) {
            findAims(road);
            for (int s = 0; s < road.stations.size; s++) {
                surplus[s] = road.docked(s) - aims[s];
            }
            int sum = 0;
            for (int place = 0; place < Stations.LAST_PLACE; place++) {
                sum += Math.abs(surplusUpTo(road.stations, place));
            }
            return sum;
        }

        private void findAims(Road road) {
            int docks = road.stations.allDocks();
            int docked = road.bicycles.countWhere(Bicycles.DOCKED);
            int left = docked;
            for (int s = 0; s < road.stations.size; s++) {
                aims[s] = docks > 0 ? road.stations.docks[s] * docked / docks : 0;
                left -= aims[s];
            }
            for (int s = 0; s < road.stations.size && s < left; s++) {
                aims[s]++;
            }
        }

        // Stations come by their numbers, so that only a better move may take the place of the one before.
        private void weigh(Road road, int s, int t) {
            int newHelp = gain(road, s, -1) + gain(road, t, 1);
            int newWay = road.stations.way(s, t);
            if (newHelp > help || newHelp == help && newHelp > 0 && newWay < way) {
                from = s;
                to = t;
                help = newHelp;
                way = newWay;
            }
        }

        private int gain(Road road, int station, int more) {
            if (!road.stations.has(station)) {
                return 0;
            }
            int then = Math.abs(2 * (road.docked(station) + more) - road.stations.docks[station]);
            return road.unevenness(station) - then;
        }

        private int surplusUpTo(Stations stations, int place) {
            int sum = 0;
            for (int s = 0; s < stations.size; s++) {
                if (stations.place[s] <= place) {
                    sum += surplus[s];
                }
            }
            return sum;
        }
    }

    private static final class History {
        static final int LIMIT = 4;

        int size;
        private final Road[] states = {new Road(), new Road(), new Road(), new Road()};
        // The slot of the oldest state: slots are used round about, so that no state is moved.
        private int oldest;

        void record(Road road) {
            if (size == LIMIT) {
                oldest = (oldest + 1) % LIMIT;
                size--;
            }
            Road slot = states[(oldest + size) % LIMIT];
            if (slot != null) {
                slot.copy(road);
                size++;
            }
        }

        /** Puts the latest state into a road and forgets it; false if there is none. */
        boolean takeLatest(Road road) {
            if (size == 0) {
                return false;
            }
            size--;
            Road latest = states[(oldest + size) % LIMIT];
            if (latest != null) {
                road.copy(latest);
            }
            return latest != null;
        }
    }

    private enum Verb {
        RENT("rent", 2),
        BACK("back", 2),
        FULL("full", 2),
        FAULT("fault", 1),
        TAKE("take", 2),
        PUT("put", 2),
        GO("go", 2),
        MEND("mend", 2),
        PASS("pass", 1),
        WAIT("wait", 1);

        final String word;
        final int numbers;

        Verb(String word, int numbers) {
            this.word = word;
            this.numbers = numbers;
        }

        int doOn(Road road, int first, int second) {
            switch (this) {
                case RENT: return road.beginRide(first, second);
                case BACK: return road.endRide(first, second);
                case FULL: return road.tellFull(first, second);
                case FAULT: return road.tellFaulty(first);
                case TAKE: return road.load(first, second);
                case PUT: return road.unload(first, second);
                case GO: return road.sendVan(first, second);
                case MEND: return road.handOver(first, second);
                case PASS: return road.sellPass(first);
                default: return road.letGoBy(first);
            }
        }
    }

    /** The text, and what came of its commands when they were last tried on a road. */
    private static final class Text {
        static final int LIMIT = 60;
        static final int FIRST_SIGN = 32;
        static final int LAST_SIGN = 126;
        static final int MOST_DIGITS = 3;
        static final int NO_FAULT = -1;
        static final int WRONG_FORM = 1;
        static final int WRONG_CALL = 2;

        int length;
        int commands;
        private int faultAt = NO_FAULT;
        private int reason;
        private int cause;
        private final char[] signs = new char[LIMIT];
        private final Verb[] verbs = Verb.values();
        private final int[] numbers = new int[2];
        private int reading;

        int append(int character) {
            if (character < FIRST_SIGN || character > LAST_SIGN) {
                return INVALID_ARGUMENT;
            }
            if (length >= LIMIT) {
                return LIMIT_REACHED;
            }
            signs[length] = (char) character;
            length++;
            return length;
        }

        int empty() {
            int old = length;
            length = 0;
            return old;
        }

        boolean hasFault() {
            return faultAt != NO_FAULT;
        }

        int aboutFault(int what) {
            if (!hasFault() || what == 2 && reason == WRONG_FORM) {
                return NOT_FOUND;
            }
            switch (what) {
                case 0: return faultAt;
                case 1: return reason;
                default: return cause;
            }
        }

        void tryOn(Road road) {
            faultAt = NO_FAULT;
            reading = 0;
            commands = 0;
            while (commands < LIMIT && reading < length && !hasFault()) {
                int start = reading;
                Verb verb = readCommand();
                int answer = verb == null ? 0 : verb.doOn(road, numbers[0], numbers[1]);
                if (verb == null || answer < 0) {
                    faultAt = start;
                    reason = verb == null ? WRONG_FORM : WRONG_CALL;
                    cause = answer;
                }
                commands++;
            }
        }

        /** Reads a command with its numbers; null if it is not of the form. */
        private Verb readCommand() {
            Verb verb = readVerb();
            boolean wellFormed = verb != null && readNumbers(verb.numbers) && readSign(';');
            return wellFormed ? verb : null;
        }

        private Verb readVerb() {
            for (Verb verb : verbs) {
                if (verb != null && isAhead(verb.word)) {
                    reading += verb.word.length();
                    return verb;
                }
            }
            return null;
        }

        private boolean isAhead(String word) {
            if (reading + word.length() > length) {
                return false;
            }
            for (int i = 0; i < word.length(); i++) {
                if (signs[reading + i] != word.charAt(i)) {
                    return false;
                }
            }
            return true;
        }

        private boolean readNumbers(int count) {
            for (int i = 0; i < count && i < numbers.length; i++) {
                if (!readSign(' ') || !isDigitAhead()) {
                    return false;
                }
                numbers[i] = readNumber();
            }
            return true;
        }

        private int readNumber() {
            int number = 0;
            for (int i = 0; i < MOST_DIGITS && isDigitAhead(); i++) {
                number = number * 10 + signs[reading] - '0';
                reading++;
            }
            return number;
        }

        private boolean isDigitAhead() {
            return reading < length && signs[reading] >= '0' && signs[reading] <= '9';
        }

        private boolean readSign(char sign) {
            if (reading >= length || signs[reading] != sign) {
                return false;
            }
            reading++;
            return true;
        }
    }
}
