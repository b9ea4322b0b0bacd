/** The boundary cases in "Faults, vans, workshop", "A minute" and "Settings", and promises 11 to 16: a test a sentence. */
public final class BoundaryVansTest {
    public static void main(String[] args) {
        take();
        put();
        go();
        mend();
        minutesInTheWorkshop();
        docked();
        waiting();
        minute();
        pause();
        settings();
        severalErrors();
        Checks.end();
    }

    private static void take() {
        Rows.told("room for some bicycles (1 to 6): 1", """
            station 0 2
            2x bicycle 0
            van 0 1
            take 0 0 = 1
            take 0 1 = -2
            put 0 0 = 0
            take 0 1 = 1
            """);
        Rows.told("room for some bicycles (1 to 6): 6", """
            station 0 8
            8x bicycle 0
            van 0 6
            take 0 7 = 1
            take 0 6 = 2
            take 0 5 = 3
            take 0 4 = 4
            take 0 3 = 5
            take 0 2 = 6
            take 0 1 = -2
            vanOf 0 2 = 252
            mend 0 7 = 60
            take 0 1 = 6
            take 0 0 = -2
            """);
        Rows.told("NOT_POSSIBLE if the van is under way: in the last minute, and not in that of arriving", """
            station 0 2
            station 10 2
            bicycle 0
            bicycle 1
            van 0 2
            go 0 1 = 6
            take 0 0 = -2
            take 0 1 = -2
            pause 5
            vanOf 0 3 = 1
            take 0 0 = -2
            take 0 1 = -2
            pause 1
            vanOf 0 3 = 0
            take 0 0 = -2
            take 0 1 = 1
            """);
        Rows.told("NOT_POSSIBLE if the bicycle is not docked where it is", """
            station 0 5
            station 0 1
            set 1 1
            5x bicycle 0
            bicycle 1
            rider
            van 0 6
            van 0 6
            take 0 5 = -2
            rent 0 0 = 0
            take 0 0 = -2
            take 0 1 = 1
            take 0 1 = -2
            take 1 1 = -2
            take 1 2 = 1
            mend 1 2 = 1
            take 1 2 = -2
            back 0 0
            put 0 1
            bicycle 0
            pause 1
            bicycleOf 2 0 = 3
            take 0 2 = -2
            take 0 0 = 1
            """);
        Rows.told("A faulty bicycle can be taken, and put", """
            station 0 1
            bicycle 0
            van 0 1
            report 0
            take 0 0 = 1
            bicycleOf 0 3 = 1
            put 0 0 = 0
            bicycleOf 0 3 = 1
            """);
    }

    private static void put() {
        Rows.told("into a free dock: the last of 8, and none", """
            station 0 8
            station 0 8
            8x bicycle 0
            van 0 2
            take 0 0
            take 0 1
            bicycle 0
            put 0 0 = 1
            put 0 1 = -2
            stationOf 0 2 = 509
            vanOf 0 2 = 2
            """);
        Rows.told("into a free dock: the only one", """
            station 0 1
            bicycle 0
            van 0 1
            take 0 0
            bicycle 0
            put 0 0 = -2
            report 1
            put 0 0 = -2
            """);
        Rows.told("NOT_POSSIBLE if the van is under way: in the last minute, and not in that of arriving", """
            station 0 2
            station 3 2
            bicycle 0
            van 0 2
            take 0 0
            go 0 1 = 2
            put 0 0 = -2
            pause 1
            put 0 0 = -2
            pause 1
            put 0 0 = 0
            bicycleOf 0 1 = 1
            """);
        Rows.told("NOT_POSSIBLE if the van does not have it", """
            station 0 8
            4x bicycle 0
            rider
            van 0 6
            van 0 6
            rent 0 0 = 0
            put 0 0 = -2
            put 0 1 = -2
            take 0 1
            put 1 1 = -2
            take 1 2
            put 0 2 = -2
            mend 1 2
            put 1 2 = -2
            put 0 1 = 0
            put 0 1 = -2
            """);
    }

    /** From the station 0 at one place to the station 1 at another, in as many minutes. */
    private static void way(int from, int to, int minutes) {
        String rows = """
            station FROM 1
            station TO 1
            bicycle 1
            van 0 1
            go 0 1 = MINUTES
            vanOf 0 0 = 1
            vanOf 0 3 = MINUTES
            take 0 0 = -2
            go 0 0 = -2
            pause MINUTES
            vanOf 0 3 = 0
            take 0 0 = 1
            """;
        rows = rows.replace("FROM", String.valueOf(from)).replace("TO", String.valueOf(to));
        Rows.told("as many minutes as the way divided by 2, plus 1, from " + from + " to " + to,
            rows.replace("MINUTES", String.valueOf(minutes)));
    }

    private static void go() {
        way(0, 0, 1);
        way(0, 1, 1);
        way(1, 0, 1);
        way(0, 2, 2);
        way(5, 2, 2);
        way(0, 3, 2);
        way(0, 4, 3);
        way(1, 99, 50);
        way(0, 99, 50);
        way(99, 0, 50);
        Rows.told("NOT_POSSIBLE if it is under way, or there", """
            station 0 1
            station 10 1
            station 20 1
            van 0 1
            go 0 0 = -2
            go 0 1 = 6
            go 0 0 = -2
            go 0 1 = -2
            go 0 2 = -2
            pause 5
            go 0 2 = -2
            go 0 1 = -2
            pause 1
            go 0 1 = -2
            go 0 2 = 12
            """);
        Rows.told("Vans arrive whose minute has come: one, then the other", """
            station 0 1
            station 10 1
            station 12 1
            van 0 1
            van 0 1
            go 0 1 = 6
            go 1 2 = 7
            pause 5
            vanOf 0 3 = 1
            vanOf 1 3 = 2
            pause 1
            vanOf 0 3 = 0
            vanOf 1 3 = 1
            pause 1
            vanOf 0 3 = 0
            vanOf 1 3 = 0
            """);
    }

    private static void mend() {
        Rows.told("The workshop is at the station 0, not at another one at its place", """
            station 5 1
            station 5 1
            bicycle 1
            van 1 1
            take 0 0
            mend 0 0 = -2
            go 0 0 = 1
            pause 1
            mend 0 0 = 61
            """);
        Rows.told("NOT_POSSIBLE if the van is under way, to the station 0 or away from it", """
            station 0 2
            station 10 2
            2x bicycle 0
            van 0 2
            take 0 0
            take 0 1
            go 0 1 = 6
            mend 0 0 = -2
            pause 6
            mend 0 0 = -2
            go 0 0 = 12
            mend 0 0 = -2
            pause 5
            mend 0 0 = -2
            pause 1
            mend 0 0 = 72
            """);
        Rows.told("NOT_POSSIBLE if the van does not have it", """
            station 0 8
            4x bicycle 0
            rider
            van 0 6
            van 0 6
            rent 0 0 = 0
            mend 0 0 = -2
            mend 0 1 = -2
            take 0 1
            mend 1 1 = -2
            mend 0 1 = 60
            mend 0 1 = -2
            """);
        Rows.told("A bicycle that is not faulty can be handed over too", """
            station 0 1
            bicycle 0
            van 0 1
            take 0 0
            mend 0 0 = 60
            bicycleOf 0 0 = 3
            bicycleOf 0 3 = 0
            """);
    }

    private static void minutesInTheWorkshop() {
        String ridden = """
            station 0 1
            bicycle 0
            rider
            van 0 1
            rent 0 0
            pause 3
            back 0 0
            report 0
            take 0 0
            """;
        Rows.told("in the workshop for setting 1 minutes: 1", ridden + """
            set 1 1
            mend 0 0 = 4
            bicycleOf 0 0 = 3
            bicycleOf 0 1 = -4
            bicycleOf 0 2 = 3
            bicycleOf 0 3 = 1
            pause 1 = 1
            bicycleOf 0 0 = 0
            bicycleOf 0 1 = 0
            bicycleOf 0 2 = 0
            bicycleOf 0 3 = 0
            bicycleOf 0 4 = 1
            """);
        Rows.told("in the workshop for setting 1 minutes: 999", ridden + """
            set 1 999
            mend 0 0 = 1002
            4x pause 200
            pause 198 = 0
            bicycleOf 0 0 = 3
            bicycleOf 0 2 = 3
            bicycleOf 0 3 = 1
            pause 1 = 1
            count 4 = 1002
            bicycleOf 0 0 = 0
            bicycleOf 0 2 = 0
            bicycleOf 0 3 = 0
            """);
        Rows.told("not faulty any more, and its minutes are 0 (also if it waits), not a minute earlier", ridden + """
            mend 0 0 = 63
            bicycle 0
            pause 59 = 0
            bicycleOf 0 2 = 3
            bicycleOf 0 3 = 1
            count 9 = 1
            pause 1 = 0
            bicycleOf 0 0 = 3
            bicycleOf 0 1 = -4
            bicycleOf 0 2 = 0
            bicycleOf 0 3 = 0
            bicycleOf 0 4 = 1
            count 8 = 1
            count 9 = 0
            """);
    }

    private static void docked() {
        String stations = """
            station 0 1
            station 0 1
            station 0 1
            station 0 1
            station 0 1
            station 0 1
            bicycle 0
            van 0 1
            take 0 0
            mend 0 0
            """;
        Rows.told("at the station with a free dock that has the lowest number: 0, although all are free", stations + """
            pause 60 = 1
            bicycleOf 0 1 = 0
            """);
        Rows.told("at the station with a free dock that has the lowest number: 3", stations + """
            bicycle 0
            bicycle 1
            bicycle 2
            bicycle 4
            pause 60 = 1
            bicycleOf 0 1 = 3
            """);
        Rows.told("at the station with a free dock that has the lowest number: 5, the last", stations + """
            bicycle 0
            bicycle 1
            bicycle 2
            bicycle 3
            bicycle 4
            pause 60 = 1
            bicycleOf 0 1 = 5
            """);
        Rows.told("if there is none, it waits", stations + """
            bicycle 0
            bicycle 1
            bicycle 2
            bicycle 3
            bicycle 4
            bicycle 5
            pause 60 = 0
            bicycleOf 0 0 = 3
            pause 200 = 0
            bicycleOf 0 0 = 3
            """);
        Rows.told("the last dock of 8, behind faulty ones", """
            station 0 8
            8x bicycle 0
            van 0 1
            report 7
            take 0 0
            mend 0 0
            pause 59 = 0
            pause 1 = 1
            bicycleOf 0 1 = 0
            stationOf 0 2 = 255
            """);
    }

    private static void waiting() {
        String waits = """
            station 0 1
            set 1 1
            bicycle 0
            rider
            van 0 1
            take 0 0
            mend 0 0
            bicycle 0
            pause 1 = 0
            pause 1 = 0
            bicycleOf 0 0 = 3
            """;
        Rows.told("it waits until there is one: behind a rent, in the next minute", waits + """
            rent 0 0 = 1
            bicycleOf 0 0 = 3
            pause 1 = 1
            bicycleOf 0 0 = 0
            bicycleOf 0 1 = 0
            back 0 0 = -2
            """);
        Rows.told("it waits until there is one: behind a take", waits + """
            take 0 1
            bicycleOf 0 0 = 3
            pause 1 = 1
            bicycleOf 0 1 = 0
            """);
        Rows.told("it waits until there is one: at a new station", waits + """
            station 50 1
            bicycleOf 0 0 = 3
            pause 1 = 1
            bicycleOf 0 1 = 1
            """);
        Rows.told("a dock that is free and taken again between two minutes is none for it", waits + """
            take 0 1
            put 0 1
            pause 1 = 0
            bicycleOf 0 0 = 3
            """);
        Rows.told("those that wait have not come out: they come out in the first minute of a later pause", waits + """
            take 0 1
            count 8 = 1
            pause 200 = 1
            count 8 = 0
            pause 200 = 0
            """);
    }

    private static void minute() {
        String two = """
            station 0 2
            set 1 5
            2x bicycle 0
            van 0 2
            take 0 0
            take 0 1
            """;
        Rows.told("by numbers, bicycles are docked: the lower one at the only dock, whichever was handed over first", two + """
            mend 0 1
            mend 0 0
            bicycle 0
            pause 4 = 0
            pause 1 = 1
            bicycleOf 0 0 = 0
            bicycleOf 1 0 = 3
            """);
        Rows.told("by numbers: also ahead of one that has waited", two + """
            mend 0 1 = 5
            2x bicycle 0
            pause 4
            mend 0 0 = 9
            pause 4 = 0
            take 0 2
            pause 1 = 1
            bicycleOf 0 0 = 0
            bicycleOf 1 0 = 3
            pause 1 = 0
            take 0 3
            pause 1 = 1
            bicycleOf 1 0 = 0
            """);
        Rows.told("a higher one whose time is over does not wait for a lower one whose time is not", two + """
            mend 0 1 = 5
            bicycle 0
            pause 1
            mend 0 0 = 6
            pause 3 = 0
            pause 1 = 1
            bicycleOf 1 0 = 0
            pause 1 = 0
            bicycleOf 0 0 = 3
            bicycleOf 0 3 = 0
            """);
        Rows.told("by numbers: each at the lowest station that is free then", """
            station 0 2
            station 9 1
            set 1 1
            2x bicycle 0
            bicycle 1
            van 0 3
            take 0 1
            take 0 0
            mend 0 1
            mend 0 0
            take 0 2 = -2
            bicycle 0
            rider
            rent 0 1 = 2
            pause 1 = 2
            bicycleOf 0 1 = 0
            bicycleOf 1 1 = 1
            """);
    }

    private static void pause() {
        Rows.told("minutes: 1 to 200", """
            pause 0 = -1
            pause 201 = -1
            pause -1 = -1
            pause -2147483648 = -1
            pause 2147483647 = -1
            pause 257 = -1
            count 4 = 0
            pause 1 = 0
            pause 200 = 0
            pause 201 = -1
            pause 0 = -1
            count 4 = 201
            """);
        Rows.told("LIMIT_REACHED if the time would be above 9000: by the most minutes", """
            44x pause 200
            count 4 = 8800
            pause 200 = 0
            count 4 = 9000
            pause 1 = -3
            pause 200 = -3
            pause 0 = -1
            pause 201 = -1
            count 4 = 9000
            """);
        Rows.told("LIMIT_REACHED if the time would be above 9000: by one minute", """
            44x pause 200
            pause 1
            pause 200 = -3
            pause 199 = 0
            undo
            pause 198 = 0
            count 4 = 8999
            pause 2 = -3
            pause 1 = 0
            pause 1 = -3
            """);
        Rows.told("At the time 9000 there is all but a pause", """
            45x pause 200
            station 0 2
            2x bicycle 0
            rider
            van 0 1
            pass 0 = 10000
            rent 0 0 = 0
            take 0 1
            mend 0 1 = 9060
            back 0 0 = 0
            text wait 1;
            fault 2 = -3
            play = -2
            """);
        Rows.told("how many come out in them: in the first minute, in the last, and not in the one behind it", """
            station 0 8
            3x bicycle 0
            van 0 3
            take 0 0
            take 0 1
            take 0 2
            set 1 1
            mend 0 0 = 1
            set 1 10
            mend 0 1 = 10
            set 1 11
            mend 0 2 = 11
            pause 10 = 2
            bicycleOf 2 0 = 3
            pause 1 = 1
            """);
        Rows.told("how many come out in them: 6 in one minute", """
            station 0 8
            6x bicycle 0
            van 0 6
            take 0 0
            take 0 1
            take 0 2
            take 0 3
            take 0 4
            take 0 5
            mend 0 0
            mend 0 1
            mend 0 2
            mend 0 3
            mend 0 4
            mend 0 5
            count 8 = 6
            pause 59 = 0
            pause 1 = 6
            count 5 = 6
            """);
    }

    private static void settings() {
        Rows.told("0 free minutes (0 to 99; 30)", """
            set 0 -1 = -1
            set 0 100 = -1
            set 0 0 = 30
            count 20 = 0
            set 0 99 = 0
            set 0 100 = -1
            set 0 -1 = -1
            count 20 = 99
            """);
        Rows.told("1 minutes in the workshop (1 to 999; 60)", """
            set 1 0 = -1
            set 1 1000 = -1
            set 1 -1 = -1
            set 1 1 = 60
            count 21 = 1
            set 1 999 = 1
            set 1 1000 = -1
            set 1 0 = -1
            count 21 = 999
            """);
        Rows.told("2 coins of a pass (0 to 999; 100)", """
            set 2 -1 = -1
            set 2 1000 = -1
            set 2 0 = 100
            count 22 = 0
            set 2 999 = 0
            set 2 1000 = -1
            set 2 -1 = -1
            count 22 = 999
            """);
        Rows.told("a value in its range: far out of it", """
            set 0 -2147483648 = -1
            set 0 2147483647 = -1
            set 0 256 = -1
            set 1 -2147483648 = -1
            set 1 2147483647 = -1
            set 1 65537 = -1
            set 2 -2147483648 = -1
            set 2 2147483647 = -1
            set 2 65536 = -1
            """);
        Rows.told("what: 0 to 2", """
            set -1 5 = -1
            set 3 5 = -1
            set 20 5 = -1
            set -2147483648 5 = -1
            set 2147483647 5 = -1
            count 20 = 30
            count 21 = 60
            count 22 = 100
            """);
        Rows.told("Rides go on as told", """
            station 0 1
            bicycle 0
            rider
            pass 0
            rent 0 0
            set 0 0
            set 2 0
            riderOf 0 4 = 30
            riderOf 0 7 = 100
            pause 30
            riderOf 0 5 = 0
            back 0 0 = 0
            """);
        Rows.told("Bicycles in the workshop go on as told: to more minutes, and to fewer", """
            station 0 2
            2x bicycle 0
            van 0 2
            take 0 0
            take 0 1
            set 1 10
            mend 0 0 = 10
            set 1 999
            pause 9 = 0
            mend 0 1 = 1008
            set 1 1
            pause 1 = 1
            bicycleOf 0 0 = 0
            bicycleOf 1 0 = 3
            """);
    }

    private static void severalErrors() {
        String underWay = """
            station 0 2
            station 10 2
            2x bicycle 0
            van 0 2
            take 0 0
            go 0 1
            """;
        for (String call : new String[] {"take", "put", "go", "mend"}) {
            String rows = underWay + """
                CALL 0 0 = -2
                CALL 0 2 = -1
                CALL 0 -1 = -1
                CALL 1 0 = -1
                CALL -1 0 = -1
                """.replace("CALL", call);
            Rows.told("INVALID_ARGUMENT rather than NOT_POSSIBLE: " + call, rows);
        }
    }
}
