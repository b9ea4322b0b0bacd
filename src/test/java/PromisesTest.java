import java.util.List;
import java.util.function.IntSupplier;

/** For each promise: ordinary inputs, the edges that the document names, and wrong inputs. */
public final class PromisesTest {
    private static final int INVALID = DockedBikes.INVALID_ARGUMENT;
    private static final int IMPOSSIBLE = DockedBikes.NOT_POSSIBLE;
    private static final int LIMIT = DockedBikes.LIMIT_REACHED;
    private static final int MISSING = DockedBikes.NOT_FOUND;

    private static DockedBikes x;

    public static void main(String[] args) {
        newObject();
        stations();
        bicycles();
        riders();
        vans();
        passes();
        rent();
        back();
        fees();
        full();
        report();
        take();
        put();
        go();
        mend();
        pause();
        waitingBicycles();
        settings();
        stationOf();
        aims();
        bicycleOf();
        riderOf();
        vanOf();
        count();
        move();
        moveTies();
        evening();
        keep();
        restore();
        undo();
        changes();
        type();
        clearText();
        faultForm();
        faultCalls();
        play();
        errorsChangeNothing();
        constants();
        Checks.end();
    }

    private static void start(String title) {
        Checks.title(title);
        x = new DockedBikes();
    }

    private static void due(String call, int got, int want) {
        Checks.due(call, got, want);
    }

    /** Stations at the places, each with as many docks. */
    private static void road(int docks, int... places) {
        for (int place : places) {
            x.station(place, docks);
        }
    }

    private static void bicyclesAt(int station, int number) {
        for (int i = 0; i < number; i++) {
            x.bicycle(station);
        }
    }

    private static void pauses(int times, int minutes) {
        for (int i = 0; i < times; i++) {
            x.pause(minutes);
        }
    }

    private static int faultOf(String text, int what) {
        x.clearText();
        Checks.write(x, text);
        return x.fault(what);
    }

    private static void newObject() {
        start("promise 1");
        for (int what = 0; what <= 15; what++) {
            due("count(" + what + ")", x.count(what), 0);
        }
        due("count(20)", x.count(20), 30);
        due("count(21)", x.count(21), 60);
        due("count(22)", x.count(22), 100);
        due("stationOf(0, 0)", x.stationOf(0, 0), INVALID);
        due("bicycleOf(0, 0)", x.bicycleOf(0, 0), INVALID);
        due("riderOf(0, 0)", x.riderOf(0, 0), INVALID);
        due("vanOf(0, 0)", x.vanOf(0, 0), INVALID);
    }

    private static void stations() {
        start("promise 2");
        due("station(-1, 1)", x.station(-1, 1), INVALID);
        due("station(100, 1)", x.station(100, 1), INVALID);
        due("station(0, 0)", x.station(0, 0), INVALID);
        due("station(0, 9)", x.station(0, 9), INVALID);
        due("station(min, max)", x.station(Integer.MIN_VALUE, Integer.MAX_VALUE), INVALID);
        due("station(0, 1)", x.station(0, 1), 0);
        due("station(99, 8)", x.station(99, 8), 1);
        due("station(99, 8) again", x.station(99, 8), 2);
        road(1, 5, 6);
        due("the sixth", x.station(7, 3), 5);
        due("a seventh", x.station(7, 3), LIMIT);
        due("a seventh out of range", x.station(7, 9), INVALID);
        due("stationOf(1, 0)", x.stationOf(1, 0), 99);
        due("stationOf(1, 1)", x.stationOf(1, 1), 8);
        due("count(0)", x.count(0), 6);
    }

    private static void bicycles() {
        start("promise 3");
        due("bicycle(0) without a station", x.bicycle(0), INVALID);
        road(8, 0, 10);
        x.station(20, 1);
        due("bicycle(-1)", x.bicycle(-1), INVALID);
        due("bicycle(3)", x.bicycle(3), INVALID);
        due("bicycle(2)", x.bicycle(2), 0);
        due("bicycle(2), full", x.bicycle(2), IMPOSSIBLE);
        bicyclesAt(0, 8);
        bicyclesAt(1, 6);
        due("the sixteenth", x.bicycle(1), 15);
        due("a seventeenth", x.bicycle(1), LIMIT);
        due("a seventeenth, no dock: not possible comes first", x.bicycle(0), IMPOSSIBLE);
        due("a seventeenth, no station: invalid comes first", x.bicycle(3), INVALID);
        due("bicycleOf(0, 0)", x.bicycleOf(0, 0), 0);
        due("bicycleOf(0, 1)", x.bicycleOf(0, 1), 2);
        due("bicycleOf(0, 2)", x.bicycleOf(0, 2), 0);
        due("bicycleOf(0, 3)", x.bicycleOf(0, 3), 0);
    }

    private static void riders() {
        start("promise 4");
        for (int r = 0; r < 8; r++) {
            due("rider()", x.rider(), r);
        }
        due("a ninth", x.rider(), LIMIT);
        due("riderOf(7, 0)", x.riderOf(7, 0), 0);
        due("riderOf(7, 1)", x.riderOf(7, 1), 0);
        due("riderOf(7, 2)", x.riderOf(7, 2), MISSING);
    }

    private static void vans() {
        start("promise 5");
        due("van(0, 1) without a station", x.van(0, 1), INVALID);
        road(2, 0, 10);
        due("van(2, 1)", x.van(2, 1), INVALID);
        due("van(-1, 1)", x.van(-1, 1), INVALID);
        due("van(0, 0)", x.van(0, 0), INVALID);
        due("van(0, 7)", x.van(0, 7), INVALID);
        due("van(1, 6)", x.van(1, 6), 0);
        due("van(0, 1)", x.van(0, 1), 1);
        due("a third", x.van(0, 1), LIMIT);
        due("a third out of range", x.van(0, 7), INVALID);
        due("vanOf(0, 0)", x.vanOf(0, 0), 1);
        due("vanOf(0, 1)", x.vanOf(0, 1), 6);
        due("vanOf(0, 3)", x.vanOf(0, 3), 0);
    }

    private static void passes() {
        start("promise 6");
        due("pass(0) without a rider", x.pass(0), INVALID);
        x.rider();
        x.rider();
        due("pass(-1)", x.pass(-1), INVALID);
        due("pass(2)", x.pass(2), INVALID);
        pauses(1, 10);
        due("from now on", x.pass(0), 1010);
        pauses(1, 10);
        due("from its present end on", x.pass(0), 2010);
        due("owed", x.riderOf(0, 0), 200);
        x.set(2, 7);
        due("another rider", x.pass(1), 1020);
        due("owed at another price", x.riderOf(1, 0), 7);
        pauses(10, 100);
        due("at its end, from now on", x.pass(1), 2020);
        for (int i = 0; i < 17; i++) {
            x.pass(0);
        }
        due("riderOf(0, 1)", x.riderOf(0, 1), 19010 - 1020);
        due("above 20000", x.pass(0), LIMIT);
        due("owed as before", x.riderOf(0, 0), 200 + 17 * 7);
        x = new DockedBikes();
        x.rider();
        for (int i = 1; i < 20; i++) {
            due("pass(0)", x.pass(0), i * 1000);
        }
        due("20000 itself", x.pass(0), 20000);
        due("a step more", x.pass(0), LIMIT);
        x.rider();
        pauses(1, 1);
        for (int i = 0; i < 19; i++) {
            x.pass(1);
        }
        due("20001", x.pass(1), LIMIT);
    }

    private static void rent() {
        start("promise 7");
        road(4, 0, 50);
        bicyclesAt(0, 3);
        due("no rider", x.rent(0, 0), INVALID);
        x.rider();
        x.rider();
        x.rider();
        due("rent(-1, 0)", x.rent(-1, 0), INVALID);
        due("rent(0, 2)", x.rent(0, 2), INVALID);
        due("rent(0, -1)", x.rent(0, -1), INVALID);
        due("no bicycle there", x.rent(0, 1), IMPOSSIBLE);
        due("the lowest number", x.rent(0, 0), 0);
        due("has a ride", x.rent(0, 0), IMPOSSIBLE);
        due("has a ride, no such station", x.rent(0, 2), INVALID);
        pauses(1, 3);
        x.back(0, 0);
        due("the fewest minutes", x.rent(0, 0), 1);
        x.report(2);
        due("not a faulty one", x.rent(1, 0), 0);
        due("only a faulty one left", x.rent(2, 0), IMPOSSIBLE);
        due("rides that began", x.stationOf(0, 5), 3);
        due("ridden", x.bicycleOf(1, 0), 1);
        due("by whom", x.bicycleOf(1, 1), 0);
    }

    private static void back() {
        start("promise 8");
        road(2, 0, 50);
        bicyclesAt(0, 2);
        due("no rider", x.back(0, 0), INVALID);
        x.rider();
        x.rider();
        due("no ride", x.back(0, 0), IMPOSSIBLE);
        x.rent(0, 0);
        due("back(0, 2)", x.back(0, 2), INVALID);
        due("back(2, 0)", x.back(2, 0), INVALID);
        due("back(-1, -1)", x.back(-1, -1), INVALID);
        x.bicycle(0);
        pauses(1, 12);
        due("no free dock", x.back(0, 0), IMPOSSIBLE);
        due("another station", x.back(0, 1), 3 + 1);
        due("no ride any more", x.back(0, 1), IMPOSSIBLE);
        due("docked there", x.bicycleOf(0, 1), 1);
        due("minutes", x.bicycleOf(0, 2), 12);
        due("rides of the bicycle", x.bicycleOf(0, 4), 1);
        due("rides of the rider", x.riderOf(0, 6), 1);
        due("owed", x.riderOf(0, 0), 4);
        due("rides that ended", x.stationOf(1, 6), 1);
        due("rides that ended elsewhere", x.stationOf(0, 6), 0);
        x.rent(1, 1);
        pauses(1, 5);
        x.back(1, 1);
        due("minutes are added", x.bicycleOf(0, 2), 17);
    }

    private static int feeAfter(boolean pass, int minutes) {
        x = new DockedBikes();
        x.station(0, 2);
        x.bicycle(0);
        x.rider();
        if (pass) {
            x.pass(0);
        }
        x.rent(0, 0);
        if (minutes > 0) {
            x.pause(minutes);
        }
        return x.back(0, 0);
    }

    private static void fees() {
        Checks.title("promise 8, fees");
        due("at once", feeAfter(false, 0), 1);
        due("a minute", feeAfter(false, 1), 2);
        due("5 minutes", feeAfter(false, 5), 2);
        due("6 minutes", feeAfter(false, 6), 3);
        due("pass, at once", feeAfter(true, 0), 0);
        due("pass, 30", feeAfter(true, 30), 0);
        due("pass, 31", feeAfter(true, 31), 1);
        due("pass, 35", feeAfter(true, 35), 1);
        due("pass, 36", feeAfter(true, 36), 2);
        start("promise 8, as it was at the beginning");
        road(2, 0);
        bicyclesAt(0, 1);
        x.rider();
        x.rent(0, 0);
        x.pass(0);
        pauses(1, 10);
        due("a pass bought later does not help", x.back(0, 0), 3);
        pauses(4, 200);
        pauses(1, 189);
        due("the last minute of the pass", x.riderOf(0, 1), 1);
        x.rent(0, 0);
        x.set(0, 99);
        due("the setting as it was", x.riderOf(0, 4), 30);
        pauses(1, 40);
        due("the pass counts that there was", x.back(0, 0), 2);
        x = new DockedBikes();
        road(2, 0);
        bicyclesAt(0, 1);
        x.rider();
        x.pass(0);
        pauses(5, 200);
        x.rent(0, 0);
        due("no pass from its end on", x.riderOf(0, 4), 0);
        due("the fee then", x.riderOf(0, 5), 1);
    }

    private static void full() {
        start("promise 9");
        road(1, 0, 10, 20);
        bicyclesAt(0, 1);
        bicyclesAt(1, 1);
        x.rider();
        due("no ride", x.full(0, 1), IMPOSSIBLE);
        due("full(1, 0)", x.full(1, 0), INVALID);
        due("full(0, 3)", x.full(0, 3), INVALID);
        due("full(-1, -1)", x.full(-1, -1), INVALID);
        x.rent(0, 0);
        due("a free dock", x.full(0, 0), IMPOSSIBLE);
        due("without a pass too", x.full(0, 1), 15);
        due("told", x.full(0, 1), IMPOSSIBLE);
        bicyclesAt(2, 1);
        due("another station", x.full(0, 2), 30);
        pauses(1, 31);
        due("the fee", x.back(0, 0), 2);
        x.pass(0);
        x.rent(0, 0);
        due("told in another ride only", x.full(0, 1), 45);
        due("riderOf(0, 4)", x.riderOf(0, 4), 45);
        x.bicycle(0);
        due("the station 0 too", x.full(0, 0), 60);
    }

    private static void report() {
        start("promise 10");
        due("no bicycle", x.report(0), INVALID);
        road(4, 0);
        bicyclesAt(0, 4);
        x.rider();
        x.van(0, 2);
        due("report(-1)", x.report(-1), INVALID);
        due("report(4)", x.report(4), INVALID);
        x.rent(0, 0);
        due("ridden", x.report(0), 1);
        due("faulty", x.report(0), IMPOSSIBLE);
        due("docked", x.report(1), 2);
        x.take(0, 2);
        due("in a van", x.report(2), IMPOSSIBLE);
        x.mend(0, 2);
        due("in the workshop", x.report(2), IMPOSSIBLE);
        x.back(0, 0);
        due("faulty after its ride", x.bicycleOf(0, 3), 1);
        due("count(9)", x.count(9), 2);
    }

    private static void take() {
        start("promise 11");
        road(4, 0, 10);
        bicyclesAt(0, 3);
        bicyclesAt(1, 1);
        due("no van", x.take(0, 0), INVALID);
        x.van(0, 2);
        x.rider();
        due("take(-1, 0)", x.take(-1, 0), INVALID);
        due("take(0, -1)", x.take(0, -1), INVALID);
        due("take(0, 4)", x.take(0, 4), INVALID);
        due("docked elsewhere", x.take(0, 3), IMPOSSIBLE);
        x.rent(0, 0);
        due("ridden", x.take(0, 0), IMPOSSIBLE);
        due("docked here", x.take(0, 1), 1);
        due("has it", x.take(0, 1), IMPOSSIBLE);
        x.go(0, 1);
        due("under way", x.take(0, 3), IMPOSSIBLE);
        pauses(1, 5);
        due("under way still", x.take(0, 3), IMPOSSIBLE);
        pauses(1, 1);
        due("arrived", x.take(0, 3), 2);
        x.go(0, 0);
        pauses(1, 6);
        due("no room", x.take(0, 2), IMPOSSIBLE);
        due("bicycleOf(3, 0)", x.bicycleOf(3, 0), 2);
        due("bicycleOf(3, 1)", x.bicycleOf(3, 1), 0);
    }

    private static void put() {
        start("promise 12");
        road(2, 0, 10);
        bicyclesAt(0, 2);
        bicyclesAt(1, 1);
        due("no van", x.put(0, 0), INVALID);
        x.van(0, 3);
        x.van(1, 3);
        due("put(2, 0)", x.put(2, 0), INVALID);
        due("put(0, 3)", x.put(0, 3), INVALID);
        due("put(-1, -1)", x.put(-1, -1), INVALID);
        due("docked", x.put(0, 0), IMPOSSIBLE);
        x.take(0, 0);
        x.take(0, 1);
        due("another van has it", x.put(1, 0), IMPOSSIBLE);
        x.go(0, 1);
        pauses(1, 5);
        due("under way", x.put(0, 0), IMPOSSIBLE);
        pauses(1, 1);
        due("arrived", x.put(0, 1), 1);
        due("no free dock", x.put(0, 0), IMPOSSIBLE);
        due("bicycleOf(1, 1)", x.bicycleOf(1, 1), 1);
        x.take(0, 2);
        due("a dock is free again", x.put(0, 0), 1);
    }

    private static void go() {
        start("promise 13");
        road(2, 10, 15, 10, 99);
        due("no van", x.go(0, 0), INVALID);
        x.van(0, 1);
        due("go(1, 0)", x.go(1, 0), INVALID);
        due("go(0, 4)", x.go(0, 4), INVALID);
        due("go(0, -1)", x.go(0, -1), INVALID);
        due("there", x.go(0, 0), IMPOSSIBLE);
        due("a way of 5", x.go(0, 1), 3);
        due("under way", x.go(0, 3), IMPOSSIBLE);
        due("under way to it", x.go(0, 1), IMPOSSIBLE);
        due("vanOf(0, 0)", x.vanOf(0, 0), 1);
        pauses(1, 3);
        due("back, the way without its sign", x.go(0, 0), 6);
        pauses(1, 3);
        due("a way of 0", x.go(0, 2), 7);
        pauses(1, 1);
        due("a way of 89", x.go(0, 3), 7 + 45);
    }

    private static void mend() {
        start("promise 14");
        road(4, 0, 10);
        bicyclesAt(0, 3);
        bicyclesAt(1, 1);
        due("no van", x.mend(0, 0), INVALID);
        x.van(0, 3);
        x.van(1, 3);
        due("mend(2, 0)", x.mend(2, 0), INVALID);
        due("mend(0, 4)", x.mend(0, 4), INVALID);
        due("mend(-1, -1)", x.mend(-1, -1), INVALID);
        due("does not have it", x.mend(0, 0), IMPOSSIBLE);
        x.take(0, 0);
        due("another van has it", x.mend(1, 0), IMPOSSIBLE);
        x.take(1, 3);
        due("not at the station 0", x.mend(1, 3), IMPOSSIBLE);
        x.go(1, 0);
        due("under way", x.mend(1, 3), IMPOSSIBLE);
        due("not faulty, all the same", x.mend(0, 0), 60);
        due("in the workshop", x.bicycleOf(0, 0), 3);
        due("its holder", x.bicycleOf(0, 1), MISSING);
        pauses(1, 6);
        x.set(1, 1);
        due("the setting then", x.mend(1, 3), 7);
        due("one comes out", x.pause(1), 1);
        due("the other goes on as told", x.pause(52), 0);
        due("its minute", x.pause(1), 1);
    }

    private static void pause() {
        start("promise 15");
        due("pause(0)", x.pause(0), INVALID);
        due("pause(-1)", x.pause(-1), INVALID);
        due("pause(201)", x.pause(201), INVALID);
        due("pause(max)", x.pause(Integer.MAX_VALUE), INVALID);
        due("pause(1)", x.pause(1), 0);
        due("pause(200)", x.pause(200), 0);
        due("count(4)", x.count(4), 201);
        pauses(43, 200);
        pauses(1, 198);
        due("count(4)", x.count(4), 8999);
        due("above 9000", x.pause(2), LIMIT);
        due("out of range comes first", x.pause(201), INVALID);
        due("9000", x.pause(1), 0);
        due("above 9000", x.pause(1), LIMIT);
        due("count(4)", x.count(4), 9000);
        Checks.title("promise 15, out of the workshop");
        x = new DockedBikes();
        road(3, 0, 10);
        bicyclesAt(0, 3);
        x.van(0, 3);
        x.report(1);
        for (int b = 0; b < 3; b++) {
            x.take(0, b);
            x.mend(0, b);
        }
        due("59", x.pause(59), 0);
        due("faulty until then", x.bicycleOf(1, 3), 1);
        due("all three", x.pause(1), 3);
        due("not faulty", x.bicycleOf(1, 3), 0);
        x.take(0, 0);
        x.take(0, 1);
        x.mend(0, 0);
        x.pause(10);
        x.mend(0, 1);
        due("in several minutes", x.pause(70), 2);
    }

    private static void waitingBicycles() {
        start("promise 15, waiting");
        road(2, 0, 10);
        bicyclesAt(0, 2);
        bicyclesAt(1, 1);
        x.rider();
        x.van(0, 6);
        x.set(1, 5);
        x.rent(0, 0);
        pauses(1, 4);
        x.back(0, 0);
        x.report(0);
        x.take(0, 0);
        x.take(0, 1);
        x.mend(0, 0);
        x.mend(0, 1);
        bicyclesAt(0, 2);
        due("the lower number comes out", x.pause(5), 1);
        due("at the only free dock", x.bicycleOf(0, 1), 1);
        due("the other waits", x.bicycleOf(1, 0), 3);
        due("no free dock, no coming out", x.pause(20), 0);
        x.take(0, 4);
        due("not before the next minute", x.bicycleOf(1, 0), 3);
        due("then at the lowest station", x.pause(1), 1);
        due("station 0", x.bicycleOf(1, 1), 0);
        due("minutes are 0 then", x.bicycleOf(0, 2), 0);
        x = new DockedBikes();
        road(1, 0);
        bicyclesAt(0, 1);
        x.rider();
        x.van(0, 6);
        x.rent(0, 0);
        pauses(1, 4);
        x.back(0, 0);
        x.report(0);
        x.take(0, 0);
        x.mend(0, 0);
        bicyclesAt(0, 1);
        pauses(1, 59);
        due("faulty still", x.bicycleOf(0, 3), 1);
        due("minutes still", x.bicycleOf(0, 2), 4);
        due("it waits", x.pause(1), 0);
        due("where", x.bicycleOf(0, 0), 3);
        due("not faulty while it waits", x.bicycleOf(0, 3), 0);
        due("minutes while it waits", x.bicycleOf(0, 2), 0);
        due("rides stay", x.bicycleOf(0, 4), 1);
        due("count(8)", x.count(8), 1);
        due("count(9)", x.count(9), 0);
    }

    private static void settings() {
        start("promise 16");
        due("set(-1, 1)", x.set(-1, 1), INVALID);
        due("set(3, 1)", x.set(3, 1), INVALID);
        due("set(0, -1)", x.set(0, -1), INVALID);
        due("set(0, 100)", x.set(0, 100), INVALID);
        due("set(1, 0)", x.set(1, 0), INVALID);
        due("set(1, 1000)", x.set(1, 1000), INVALID);
        due("set(2, -1)", x.set(2, -1), INVALID);
        due("set(2, 1000)", x.set(2, 1000), INVALID);
        due("set(0, 99)", x.set(0, 99), 30);
        due("set(0, 0)", x.set(0, 0), 99);
        due("set(1, 1)", x.set(1, 1), 60);
        due("set(1, 999)", x.set(1, 999), 1);
        due("set(2, 0)", x.set(2, 0), 100);
        due("set(2, 999)", x.set(2, 999), 0);
        due("count(20)", x.count(20), 0);
        due("count(21)", x.count(21), 999);
        due("count(22)", x.count(22), 999);
    }

    private static void stationOf() {
        start("promise 17");
        x.station(7, 3);
        x.station(8, 4);
        bicyclesAt(1, 2);
        bicyclesAt(0, 1);
        bicyclesAt(1, 1);
        x.rider();
        due("stationOf(-1, 0)", x.stationOf(-1, 0), INVALID);
        due("stationOf(2, 0)", x.stationOf(2, 0), INVALID);
        due("stationOf(0, -1)", x.stationOf(0, -1), INVALID);
        due("stationOf(0, 7)", x.stationOf(0, 7), INVALID);
        due("place", x.stationOf(1, 0), 8);
        due("docks", x.stationOf(1, 1), 4);
        due("set", x.stationOf(1, 2), 0b1011);
        due("set", x.stationOf(0, 2), 0b100);
        due("uneven: too many", x.stationOf(1, 3), 2);
        due("uneven: too few", x.stationOf(0, 3), 1);
        x.rent(0, 1);
        x.back(0, 0);
        x.rent(0, 1);
        due("set without the ridden", x.stationOf(1, 2), 0b1000);
        due("began", x.stationOf(1, 5), 2);
        due("began elsewhere", x.stationOf(0, 5), 0);
        due("ended", x.stationOf(0, 6), 1);
        due("ended elsewhere", x.stationOf(1, 6), 0);
    }

    private static void aims() {
        start("promise 17, aims");
        x.station(0, 3);
        x.station(10, 5);
        x.station(20, 2);
        due("no bicycles", x.stationOf(0, 4), 0);
        bicyclesAt(1, 4);
        due("12/10 and one left over", x.stationOf(0, 4), 2);
        due("20/10", x.stationOf(1, 4), 2);
        due("8/10", x.stationOf(2, 4), 0);
        bicyclesAt(1, 1);
        due("15/10 and one left over", x.stationOf(0, 4), 2);
        due("25/10", x.stationOf(1, 4), 2);
        due("10/10", x.stationOf(2, 4), 1);
        bicyclesAt(0, 3);
        due("24/10 and one left over", x.stationOf(0, 4), 3);
        due("40/10", x.stationOf(1, 4), 4);
        due("16/10", x.stationOf(2, 4), 1);
        x.rider();
        x.rent(0, 0);
        due("only the docked ones: 21/10 and one", x.stationOf(0, 4), 3);
        due("35/10", x.stationOf(1, 4), 3);
        due("14/10", x.stationOf(2, 4), 1);
        x = new DockedBikes();
        road(4, 0, 1, 2, 3);
        bicyclesAt(3, 3);
        due("three left over: 0", x.stationOf(0, 4), 1);
        due("three left over: 1", x.stationOf(1, 4), 1);
        due("three left over: 2", x.stationOf(2, 4), 1);
        due("three left over: 3", x.stationOf(3, 4), 0);
    }

    private static void bicycleOf() {
        start("promise 18");
        road(4, 0, 10);
        bicyclesAt(1, 2);
        bicyclesAt(0, 2);
        x.rider();
        x.rider();
        x.van(1, 2);
        x.van(0, 2);
        due("bicycleOf(-1, 0)", x.bicycleOf(-1, 0), INVALID);
        due("bicycleOf(4, 0)", x.bicycleOf(4, 0), INVALID);
        due("bicycleOf(0, -1)", x.bicycleOf(0, -1), INVALID);
        due("bicycleOf(0, 5)", x.bicycleOf(0, 5), INVALID);
        due("docked", x.bicycleOf(0, 0), 0);
        due("its station", x.bicycleOf(0, 1), 1);
        x.rent(1, 1);
        due("ridden", x.bicycleOf(0, 0), 1);
        due("its rider", x.bicycleOf(0, 1), 1);
        pauses(1, 7);
        due("minutes of ended rides only", x.bicycleOf(0, 2), 0);
        due("ended rides only", x.bicycleOf(0, 4), 0);
        x.back(1, 0);
        due("minutes", x.bicycleOf(0, 2), 7);
        due("rides", x.bicycleOf(0, 4), 1);
        due("not faulty", x.bicycleOf(0, 3), 0);
        x.report(0);
        due("faulty", x.bicycleOf(0, 3), 1);
        x.take(1, 0);
        due("in a van", x.bicycleOf(0, 0), 2);
        due("its van", x.bicycleOf(0, 1), 1);
        x.mend(1, 0);
        due("in the workshop", x.bicycleOf(0, 0), 3);
        due("nobody's", x.bicycleOf(0, 1), MISSING);
        due("faulty still", x.bicycleOf(0, 3), 1);
        due("out of range in the workshop", x.bicycleOf(0, 5), INVALID);
        due("comes out", x.pause(60), 1);
        due("docked again", x.bicycleOf(0, 0), 0);
        due("its station again", x.bicycleOf(0, 1), 0);
    }

    private static void riderOf() {
        start("promise 19");
        road(2, 0, 10);
        bicyclesAt(0, 2);
        x.rider();
        x.rider();
        due("riderOf(-1, 0)", x.riderOf(-1, 0), INVALID);
        due("riderOf(2, 0)", x.riderOf(2, 0), INVALID);
        due("riderOf(0, -1)", x.riderOf(0, -1), INVALID);
        due("riderOf(0, 8)", x.riderOf(0, 8), INVALID);
        for (int what = 2; what <= 5; what++) {
            due("riderOf(0, " + what + ") without a ride", x.riderOf(0, what), MISSING);
        }
        due("no pass", x.riderOf(1, 1), 0);
        x.pass(1);
        due("a pass", x.riderOf(1, 1), 1000);
        due("coins for passes", x.riderOf(1, 7), 100);
        x.set(2, 30);
        x.pass(0);
        x.pass(0);
        due("coins for several passes", x.riderOf(0, 7), 60);
        x.rent(1, 0);
        pauses(1, 41);
        due("the pass goes by", x.riderOf(1, 1), 959);
        due("bicycle", x.riderOf(1, 2), 0);
        due("minutes", x.riderOf(1, 3), 41);
        due("free minutes", x.riderOf(1, 4), 30);
        due("fee now", x.riderOf(1, 5), 3);
        due("no fee yet", x.riderOf(1, 0), 100);
        due("no ended ride yet", x.riderOf(1, 6), 0);
        x.back(1, 0);
        due("owed", x.riderOf(1, 0), 103);
        due("ended rides", x.riderOf(1, 6), 1);
        due("coins for passes as before", x.riderOf(1, 7), 100);
        due("no bicycle any more", x.riderOf(1, 2), MISSING);
        pauses(5, 200);
        due("a pass that is over", x.riderOf(1, 1), 0);
        due("another rider's", x.riderOf(0, 0), 60);
    }

    private static void vanOf() {
        start("promise 20");
        road(4, 0, 10);
        bicyclesAt(1, 3);
        x.van(1, 5);
        due("vanOf(-1, 0)", x.vanOf(-1, 0), INVALID);
        due("vanOf(1, 0)", x.vanOf(1, 0), INVALID);
        due("vanOf(0, -1)", x.vanOf(0, -1), INVALID);
        due("vanOf(0, 4)", x.vanOf(0, 4), INVALID);
        due("station", x.vanOf(0, 0), 1);
        due("room", x.vanOf(0, 1), 5);
        due("empty", x.vanOf(0, 2), 0);
        x.take(0, 0);
        x.take(0, 2);
        due("set", x.vanOf(0, 2), 0b101);
        due("room as before", x.vanOf(0, 1), 5);
        due("at a station", x.vanOf(0, 3), 0);
        x.go(0, 0);
        due("where it goes", x.vanOf(0, 0), 0);
        due("minutes left", x.vanOf(0, 3), 6);
        pauses(1, 5);
        due("minutes left", x.vanOf(0, 3), 1);
        pauses(1, 1);
        due("arrived", x.vanOf(0, 3), 0);
        pauses(1, 9);
        due("arrived long ago", x.vanOf(0, 3), 0);
    }

    private static void count() {
        start("promise 21");
        due("count(-1)", x.count(-1), INVALID);
        due("count(16)", x.count(16), INVALID);
        due("count(19)", x.count(19), INVALID);
        due("count(23)", x.count(23), INVALID);
        due("count(min)", x.count(Integer.MIN_VALUE), INVALID);
        x.station(0, 5);
        x.station(9, 8);
        bicyclesAt(0, 5);
        bicyclesAt(1, 1);
        x.rider();
        x.rider();
        x.rider();
        x.van(0, 3);
        x.rent(1, 0);
        x.rent(2, 0);
        x.take(0, 2);
        x.take(0, 3);
        x.take(0, 4);
        x.mend(0, 3);
        x.report(1);
        x.pass(0);
        pauses(1, 9);
        x.back(1, 1);
        x.keep();
        Checks.write(x, "abc");
        int[] want = {2, 6, 3, 1, 9, 2, 1, 2, 1, 1, 13, 103, 5 + 4, 4, 3, 1};
        for (int what = 0; what < want.length; what++) {
            due("count(" + what + ")", x.count(what), want[what]);
        }
        due("count(20)", x.count(20), 30);
        due("count(21)", x.count(21), 60);
        due("count(22)", x.count(22), 100);
    }

    private static void move() {
        start("promise 22");
        due("move(-1)", x.move(-1), INVALID);
        due("move(3)", x.move(3), INVALID);
        due("no station", x.move(0), MISSING);
        x.station(0, 4);
        x.station(50, 6);
        bicyclesAt(1, 6);
        due("move(0)", x.move(0), 1);
        due("move(1)", x.move(1), 0);
        due("move(2)", x.move(2), 4);
        x = new DockedBikes();
        x.station(0, 3);
        x.station(50, 4);
        bicyclesAt(1, 3);
        bicyclesAt(0, 1);
        due("help 2 + 0", x.move(2), 2);
        x = new DockedBikes();
        road(1, 0, 1);
        bicyclesAt(0, 1);
        due("a help of 0 is none", x.move(0), MISSING);
        due("out of range comes first", x.move(3), INVALID);
        x = new DockedBikes();
        road(2, 0, 1);
        bicyclesAt(0, 2);
        bicyclesAt(1, 1);
        due("what helps one only as much as it harms the other", x.move(2), MISSING);
        x = new DockedBikes();
        x.station(0, 1);
        x.station(9, 2);
        bicyclesAt(0, 1);
        due("the only bicycle there", x.move(0), 0);
        due("its help", x.move(2), 2);
    }

    private static void moveTies() {
        start("promise 22, ties");
        road(4, 0, 30, 50);
        bicyclesAt(0, 4);
        due("the least way", x.move(1), 1);
        x = new DockedBikes();
        road(4, 0, 50, 30);
        bicyclesAt(0, 4);
        due("the least way, also if it comes later", x.move(1), 2);
        x = new DockedBikes();
        x.station(0, 4);
        x.station(50, 4);
        x.station(1, 1);
        bicyclesAt(0, 4);
        due("less help, although near", x.move(1), 1);
        x = new DockedBikes();
        road(4, 20, 50, 80, 0);
        bicyclesAt(1, 4);
        bicyclesAt(2, 4);
        due("the lowest from", x.move(0), 1);
        due("its to", x.move(1), 0);
        x = new DockedBikes();
        road(4, 20, 40, 30);
        bicyclesAt(2, 4);
        due("the lowest to", x.move(1), 0);
        due("its from", x.move(0), 2);
        x = new DockedBikes();
        x.station(0, 2);
        x.station(1, 2);
        x.station(99, 8);
        bicyclesAt(0, 2);
        bicyclesAt(1, 1);
        due("help goes before way", x.move(1), 2);
        due("its help", x.move(2), 4);
    }

    private static void evening() {
        start("promise 23");
        due("no station", x.evening(), MISSING);
        road(4, 30);
        due("one station", x.evening(), 0);
        bicyclesAt(0, 3);
        due("one station with bicycles", x.evening(), 0);
        x.station(10, 4);
        due("aims 2 and 1", x.evening(), 20);
        x.station(99, 1);
        due("aims 2, 1, 0", x.evening(), 20);
        bicyclesAt(0, 1);
        due("aims 2, 1 + 0 left over", x.stationOf(0, 4) * 10 + x.stationOf(1, 4), 22);
        due("two of them over 20", x.evening(), 40);
        x = new DockedBikes();
        road(2, 0, 40, 99, 50);
        bicyclesAt(0, 2);
        bicyclesAt(2, 2);
        due("0 to 40, 99 to 50", x.evening(), 40 + 49);
        x = new DockedBikes();
        road(2, 5, 5);
        bicyclesAt(0, 2);
        due("at the same place", x.evening(), 0);
        x = new DockedBikes();
        road(2, 99, 0);
        bicyclesAt(1, 2);
        due("the whole road", x.evening(), 99);
    }

    private static void keep() {
        start("promise 24");
        pauses(1, 5);
        due("keep()", x.keep(), 5);
        due("no change", x.count(13), 1);
        due("count(15)", x.count(15), 1);
        pauses(1, 6);
        due("in place of the one that was", x.keep(), 11);
        pauses(1, 1);
        due("restore()", x.restore(), 11);
        due("count(4)", x.count(4), 11);
    }

    private static void restore() {
        start("promise 25");
        due("none", x.restore(), IMPOSSIBLE);
        due("no change", x.count(13), 0);
        fullRoad();
        List<Integer> kept = Checks.look(x);
        x.keep();
        disturb();
        Checks.write(x, "go");
        due("restore()", x.restore(), 9);
        Checks.holds("everything is as it was kept", Checks.look(x).equals(kept));
        due("the text is not", x.count(14), 2);
        due("it stays", x.count(15), 1);
        due("a change", x.count(13), 4);
        x.pause(1);
        due("again", x.restore(), 9);
        due("undone", x.undo(), 3);
        due("the time before", x.count(4), 10);
        restoreWorkshop();
    }

    private static void restoreWorkshop() {
        x = new DockedBikes();
        road(2, 0);
        bicyclesAt(0, 1);
        x.van(0, 1);
        x.take(0, 0);
        x.mend(0, 0);
        x.keep();
        x.pause(60);
        x.take(0, 0);
        x.set(1, 500);
        x.mend(0, 0);
        x.restore();
        due("not before its minute of then", x.pause(59), 0);
        due("the minute of then", x.pause(1), 1);
    }

    private static void undo() {
        start("promise 26");
        due("empty", x.undo(), IMPOSSIBLE);
        fullRoad();
        List<Integer> before = Checks.look(x);
        x.pause(30);
        due("undo()", x.undo(), 3);
        Checks.holds("everything is as before", Checks.look(x).equals(before));
        x = new DockedBikes();
        for (int i = 1; i <= 6; i++) {
            x.pause(i);
        }
        due("four states", x.count(13), 4);
        due("left", x.undo(), 3);
        due("time", x.count(4), 15);
        due("left", x.undo(), 2);
        due("left", x.undo(), 1);
        due("left", x.undo(), 0);
        due("the oldest one kept", x.count(4), 3);
        due("none left", x.undo(), IMPOSSIBLE);
        due("as it was", x.count(4), 3);
        x.pause(1);
        due("a state again", x.count(13), 1);
        x.keep();
        x.pause(1);
        Checks.write(x, "xy");
        x.undo();
        due("the snapshot stays", x.count(15), 1);
        due("the text stays", x.count(14), 2);
    }

    /** A road with something of each kind, at the time 9. */
    private static void fullRoad() {
        road(4, 0, 10, 35);
        bicyclesAt(0, 4);
        bicyclesAt(1, 2);
        x.rider();
        x.rider();
        x.van(0, 3);
        x.van(1, 2);
        x.pass(0);
        x.rent(0, 0);
        x.rent(1, 1);
        x.report(1);
        x.take(0, 1);
        x.take(0, 2);
        x.mend(0, 1);
        x.set(0, 40);
        x.pause(9);
        x.go(1, 2);
    }

    private static void disturb() {
        x.back(0, 1);
        x.back(1, 2);
        x.report(5);
        x.put(0, 2);
        x.set(0, 1);
        x.set(1, 2);
        x.set(2, 3);
        x.station(50, 5);
        x.bicycle(3);
        x.rider();
        x.pass(2);
        x.rent(2, 3);
        x.go(0, 3);
        x.pause(100);
    }

    /** On the full road, a change is undone by one undo, and an error leaves all as it was. */
    private static void oneChange(String call, IntSupplier change) {
        x = new DockedBikes();
        fullRoad();
        List<Integer> before = Checks.look(x);
        Checks.holds(call + " is possible", change.getAsInt() >= 0);
        due(call + ": undo()", x.undo(), 3);
        Checks.holds(call + " is undone as one change", Checks.look(x).equals(before));
    }

    private static void changes() {
        start("changes");
        oneChange("station", () -> x.station(1, 1));
        oneChange("bicycle", () -> x.bicycle(2));
        oneChange("rider", () -> x.rider());
        oneChange("pass", () -> x.pass(1));
        oneChange("back", () -> x.back(1, 2));
        oneChange("report", () -> x.report(3));
        oneChange("put", () -> x.put(0, 2));
        oneChange("take", () -> x.take(0, 3));
        oneChange("go", () -> x.go(0, 2));
        oneChange("mend", () -> x.mend(0, 2));
        oneChange("pause", () -> x.pause(70));
        oneChange("set", () -> x.set(1, 5));
        oneChange("play", () -> x.play());
        start("changes that come soon");
        x.rider();
        x.station(0, 1);
        x.van(0, 2);
        due("van is a change", x.count(13), 3);
        due("undo of van", x.undo(), 2);
        due("no van", x.count(3), 0);
        x.bicycle(0);
        x.undo();
        x.undo();
        x.undo();
        due("rider and station are undone", x.count(0) + x.count(2) + x.count(13), 0);
        road(1, 0, 5);
        x.rider();
        x.bicycle(0);
        x.rent(0, 0);
        due("undo of rent", x.undo(), 3);
        due("no ride", x.riderOf(0, 2), MISSING);
        x.bicycle(1);
        x.rent(0, 0);
        x.full(0, 1);
        due("undo of full", x.undo(), 3);
        due("free minutes as before", x.riderOf(0, 4), 0);
        due("it can be told again", x.full(0, 1), 15);
        start("no changes");
        x.pause(1);
        x.keep();
        x.type('p');
        x.fault(0);
        x.clearText();
        x.count(4);
        x.move(0);
        x.evening();
        x.pause(0);
        due("states", x.count(13), 1);
        x.undo();
        x.keep();
        x.pause(1);
        x.restore();
        due("restore is one", x.count(13), 2);
        due("and is undone", x.undo() * 10 + x.count(4), 11);
    }

    private static void type() {
        start("promise 27");
        due("type(31)", x.type(31), INVALID);
        due("type(127)", x.type(127), INVALID);
        due("type(-1)", x.type(-1), INVALID);
        due("type(65536 + 65)", x.type(65536 + 65), INVALID);
        due("type(32)", x.type(32), 1);
        due("type(126)", x.type(126), 2);
        for (int i = 3; i <= 60; i++) {
            due("type", x.type('a'), i);
        }
        due("a 61st", x.type('a'), LIMIT);
        due("a 61st out of range", x.type(127), INVALID);
        due("count(14)", x.count(14), 60);
    }

    private static void clearText() {
        start("promise 28");
        due("empty", x.clearText(), 0);
        Checks.write(x, "wait 1;wait");
        due("its length", x.clearText(), 11);
        due("count(14)", x.count(14), 0);
        due("nothing is left of it", x.play(), 0);
        Checks.write(x, "wait 2");
        due("nor behind a shorter one", x.fault(1), 1);
    }

    private static void faultForm() {
        start("promise 29, form");
        road(8, 0);
        due("fault(-1)", x.fault(-1), INVALID);
        due("fault(3)", x.fault(3), INVALID);
        for (int what = 0; what <= 2; what++) {
            due("empty, " + what, x.fault(what), MISSING);
        }
        String[] wrong = {";", " ", "wait", "wait;", "wait ;", "wait 1", "wait 1 ;", " wait 1;", "wait  1;", "wait 1 1;",
            "wait 0001;", "wait 1000;", "wait -1;", "wait +1;", "wait a;", "wait 1a;", "wait1;", "Wait 1;", "waits 1;", "wai 1;",
            "go 0;", "go 0 ;", "go 0  0;", "go 0 0 0;", "rent 0;", "back 0;", "full 0;", "take 0;", "put 0;", "mend 0;",
            "fault 0 0;", "pass 0 0;", "report 0;", "pause 1;", "set 0 0;", "wait 1,", "wait 1:", "go 0,0;", "ren"};
        for (String text : wrong) {
            due(text + ", position", faultOf(text, 0), 0);
            due(text + ", reason", x.fault(1), 1);
            due(text + ", cause", x.fault(2), MISSING);
            due(text + ", played", x.play(), IMPOSSIBLE);
        }
        start("promise 29, place of a wrong form");
        due("behind a command", faultOf("wait 1; wait 1;", 0), 7);
        due("behind two", faultOf("wait 1;wait 012;wait", 0), 16);
        due("behind the last", faultOf("wait 1;;", 0), 7);
        due("a blank behind the last", faultOf("wait 1; ", 0), 7);
        due("only numbers up to 999 have the form", faultOf("wait 999;", 1), 2);
        due("000 has it", faultOf("wait 000;", 1), 2);
        due("one that is not possible comes before", faultOf("wait 0;wait", 1), 2);
        String eight = "wait 1;wait 1;wait 1;wait 1;wait 1;wait 1;wait 1;wait 1;";
        due("a word that the end of the text cuts", faultOf(eight + "faul", 0), 56);
        due("its reason", x.fault(1), 1);
    }

    private static void faultCalls() {
        start("promise 29, calls");
        road(2, 0, 10);
        bicyclesAt(0, 2);
        x.rider();
        x.van(0, 1);
        String[] possible = {"rent 0 0;", "rent 000 00;back 0 1;", "rent 0 0;wait 7;fault 0;back 0 0;pass 0;",
            "take 0 1;put 0 1;go 0 1;", "take 0 0;mend 0 0;wait 60;wait 200;", "go 0 1;wait 6;go 0 0;wait 006;"};
        for (String text : possible) {
            due(text, faultOf(text, 0), MISSING);
            due(text + " 1", x.fault(1), MISSING);
            due(text + " 2", x.fault(2), MISSING);
        }
        causes("rent 0 2;", 0, INVALID);
        causes("rent 8 0;", 0, INVALID);
        causes("rent 0 1;", 0, IMPOSSIBLE);
        causes("rent 0 0;rent 0 0;", 9, IMPOSSIBLE);
        causes("back 0 0;", 0, IMPOSSIBLE);
        causes("rent 0 0;back 0 9;", 9, INVALID);
        causes("full 0 0;", 0, IMPOSSIBLE);
        causes("fault 2;", 0, INVALID);
        causes("fault 1;fault 1;", 8, IMPOSSIBLE);
        causes("take 0 0;take 0 1;", 9, IMPOSSIBLE);
        causes("take 1 0;", 0, INVALID);
        causes("put 0 0;", 0, IMPOSSIBLE);
        causes("go 0 0;", 0, IMPOSSIBLE);
        causes("go 0 1;wait 5;go 0 0;", 14, IMPOSSIBLE);
        causes("mend 0 0;", 0, IMPOSSIBLE);
        causes("pass 1;", 0, INVALID);
        causes("wait 0;", 0, INVALID);
        causes("wait 201;", 0, INVALID);
        start("promise 29, limits and full stations");
        road(1, 0, 10);
        bicyclesAt(0, 1);
        bicyclesAt(1, 1);
        x.rider();
        due("full", faultOf("rent 0 0;full 0 1;full 0 1;", 0), 18);
        due("no free dock", faultOf("rent 0 0;back 0 1;", 2), IMPOSSIBLE);
        pauses(44, 200);
        causes("wait 200;wait 1;", 9, LIMIT);
        for (int i = 0; i < 11; i++) {
            x.pass(0);
        }
        causes("pass 0;", 0, LIMIT);
        due("a text that is tried changes nothing", x.count(4), 8800);
    }

    private static void causes(String text, int position, int cause) {
        due(text + ", position", faultOf(text, 0), position);
        due(text + ", reason", x.fault(1), 2);
        due(text + ", cause", x.fault(2), cause);
        due(text + ", played", x.play(), IMPOSSIBLE);
    }

    private static void play() {
        start("promise 30");
        due("none", x.play(), 0);
        due("a change all the same", x.count(13), 1);
        road(2, 0, 10);
        x.undo();
        x.undo();
        x.undo();
        due("undone", x.count(13), 0);
        fullRoad();
        List<Integer> before = Checks.look(x);
        Checks.write(x, "back 1 1;fault 3;put 0 2;take 0 3;mend 0 3;go 0 1;wait 6;");
        due("commands", x.play(), 7);
        due("it stays", x.count(14), 57);
        due("the time", x.count(4), 15);
        due("ended", x.bicycleOf(4, 0), 0);
        due("in the workshop", x.bicycleOf(3, 0), 3);
        due("put and left", x.bicycleOf(2, 0), 0);
        due("gone and arrived", x.vanOf(0, 0) * 10 + x.vanOf(0, 3), 10);
        due("not possible now", x.play(), IMPOSSIBLE);
        due("one change", x.undo(), 3);
        Checks.holds("undone as one change", Checks.look(x).equals(before));
        start("promise 30, all commands");
        road(1, 0, 4);
        bicyclesAt(0, 1);
        bicyclesAt(1, 1);
        x.rider();
        x.van(0, 1);
        Checks.write(x, "pass 0;rent 0 0;full 0 1;wait 2;back 0 0;take 0 0;mend 0 0;");
        due("commands", x.play(), 7);
        due("the free minutes are over with the ride", x.riderOf(0, 4), MISSING);
        due("rides", x.riderOf(0, 6), 1);
        due("done with it", x.pause(60), 1);
        x.clearText();
        Checks.write(x, "wait 1;wait 1;wait 1;wait 1;wait 1;wait 1;wait 1;wait 1;");
        due("eight", x.play(), 8);
        due("the time", x.count(4), 70);
    }

    /** A call that is an error, and after which all is as before. */
    private static void error(String call, IntSupplier wrong) {
        x = new DockedBikes();
        fullRoad();
        Checks.write(x, "wait 1;go 0 9;");
        List<Integer> before = Checks.lookAtAll(x);
        Checks.holds(call + " is an error", wrong.getAsInt() < 0);
        Checks.holds(call + " changes nothing", Checks.lookAtAll(x).equals(before));
    }

    private static void errorsChangeNothing() {
        start("errors change nothing");
        error("station", () -> x.station(0, 9));
        error("bicycle", () -> x.bicycle(3));
        error("van", () -> x.van(0, 1));
        error("pass", () -> x.pass(2));
        error("rent", () -> x.rent(0, 0));
        error("back", () -> x.back(0, 3));
        error("full", () -> x.full(0, 1));
        error("report", () -> x.report(1));
        error("take", () -> x.take(1, 5));
        error("put", () -> x.put(0, 0));
        error("go", () -> x.go(1, 0));
        error("mend", () -> x.mend(1, 0));
        error("pause", () -> x.pause(201));
        error("set", () -> x.set(1, 0));
        error("restore", () -> x.restore());
        error("type", () -> x.type(31));
        error("play", () -> x.play());
    }

    private static void constants() {
        Checks.title("the constants");
        due("INVALID_ARGUMENT", DockedBikes.INVALID_ARGUMENT, -1);
        due("NOT_POSSIBLE", DockedBikes.NOT_POSSIBLE, -2);
        due("LIMIT_REACHED", DockedBikes.LIMIT_REACHED, -3);
        due("NOT_FOUND", DockedBikes.NOT_FOUND, -4);
    }
}
