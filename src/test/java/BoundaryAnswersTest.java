/** The boundary cases in "Filling", of what there is and of what should be done, and promises 17 to 23: a test a sentence. */
public final class BoundaryAnswersTest {
    private static final String SOMETHING_OF_EACH = """
        station 10 4
        station 30 4
        4x bicycle 0
        rider
        van 0 2
        rent 0 0
        keep
        """;

    public static void main(String[] args) {
        whats();
        ofStations();
        ofBicycles();
        ofRiders();
        ofVans();
        counts();
        uneven();
        aims();
        possibleMoves();
        firstMoves();
        evening();
        Checks.end();
    }

    /** The first and the last that is allowed are no error, and those beside them are. */
    private static void range(String call, int first, int last) {
        StringBuilder rows = new StringBuilder(SOMETHING_OF_EACH);
        for (int what = first; what <= last; what++) {
            rows.append(call).append(what).append('\n');
        }
        for (int what : new int[] {first - 1, last + 1, Integer.MIN_VALUE, Integer.MAX_VALUE, first + 256, first - 65536}) {
            rows.append(call).append(what).append(" = -1\n");
        }
        Rows.told("what: " + first + " to " + last, rows.toString());
    }

    private static void whats() {
        range("stationOf 1 ", 0, 6);
        range("bicycleOf 2 ", 0, 4);
        range("riderOf 0 ", 0, 7);
        range("vanOf 0 ", 0, 3);
        range("count ", 0, 15);
        range("count ", 20, 22);
        range("move ", 0, 2);
        Rows.told("what: neither 16 nor 19, which lie between", """
            count 15 = 0
            count 16 = -1
            count 17 = -1
            count 18 = -1
            count 19 = -1
            count 20 = 30
            """);
        Rows.told("INVALID_ARGUMENT if one argument is out of its range, and if both are", SOMETHING_OF_EACH + """
            stationOf 2 0 = -1
            stationOf 2 7 = -1
            bicycleOf 4 0 = -1
            bicycleOf 4 5 = -1
            riderOf 1 0 = -1
            riderOf 1 8 = -1
            vanOf 1 0 = -1
            vanOf 1 4 = -1
            """);
    }

    private static void ofStations() {
        Rows.told("the bicycles that are docked there, as a set: none, one, all that there may be", """
            station 0 8
            stationOf 0 2 = 0
            bicycle 0
            stationOf 0 2 = 1
            7x bicycle 0
            stationOf 0 2 = 255
            """);
        Rows.told("rides that began and ended there so far: 0 at first, and at one station", """
            station 0 2
            station 9 2
            bicycle 0
            rider
            stationOf 0 5 = 0
            stationOf 0 6 = 0
            rent 0 0
            rent 0 0 = -2
            stationOf 0 5 = 1
            stationOf 0 6 = 0
            back 0 1
            back 0 1 = -2
            stationOf 0 6 = 0
            stationOf 1 5 = 0
            stationOf 1 6 = 1
            rent 0 1
            back 0 1
            stationOf 1 5 = 1
            stationOf 1 6 = 2
            """);
    }

    private static void ofBicycles() {
        Rows.told("0 docked, 1 ridden, 2 in a van, 3 in the workshop; NOT_FOUND for 1 in the workshop", """
            station 0 1
            station 5 1
            set 1 1
            bicycle 1
            2x rider
            2x van 0 1
            bicycleOf 0 0 = 0
            bicycleOf 0 1 = 1
            rent 1 1
            bicycleOf 0 0 = 1
            bicycleOf 0 1 = 1
            back 1 0
            take 1 0
            bicycleOf 0 0 = 2
            bicycleOf 0 1 = 1
            mend 1 0
            bicycleOf 0 0 = 3
            bicycleOf 0 1 = -4
            bicycleOf 0 5 = -1
            bicycleOf 0 -1 = -1
            bicycle 0
            bicycle 1
            pause 1 = 0
            bicycleOf 0 0 = 3
            bicycleOf 0 1 = -4
            take 0 1
            pause 1 = 1
            bicycleOf 0 0 = 0
            bicycleOf 0 1 = 0
            bicycleOf 0 4 = 1
            """);
        Rows.told("its rider, its van: the last of them", """
            station 0 2
            2x bicycle 0
            8x rider
            2x van 0 1
            rent 7 0
            bicycleOf 0 1 = 7
            take 1 1
            bicycleOf 1 1 = 1
            """);
    }

    private static void ofRiders() {
        Rows.told("NOT_FOUND for 2 to 5 without a ride: ahead of the first, behind it, and not for 0, 1, 6, 7", """
            station 0 1
            bicycle 0
            rider
            riderOf 0 0 = 0
            riderOf 0 1 = 0
            riderOf 0 2 = -4
            riderOf 0 3 = -4
            riderOf 0 4 = -4
            riderOf 0 5 = -4
            riderOf 0 6 = 0
            riderOf 0 7 = 0
            riderOf 0 8 = -1
            riderOf 0 -1 = -1
            rent 0 0
            riderOf 0 2 = 0
            riderOf 0 3 = 0
            riderOf 0 4 = 0
            riderOf 0 5 = 1
            riderOf 0 6 = 0
            back 0 0
            riderOf 0 1 = 0
            riderOf 0 2 = -4
            riderOf 0 3 = -4
            riderOf 0 4 = -4
            riderOf 0 5 = -4
            riderOf 0 6 = 1
            riderOf 0 7 = 0
            """);
        Rows.told("the minutes for which there is a pass from now on: the first and the last, and never below 0", """
            rider
            riderOf 0 1 = 0
            pass 0
            riderOf 0 1 = 1000
            pause 1
            riderOf 0 1 = 999
            4x pause 200
            pause 198
            riderOf 0 1 = 1
            pause 1
            riderOf 0 1 = 0
            pause 1
            riderOf 0 1 = 0
            """);
        Rows.told("the bicycle that is ridden: the last of 16", """
            station 0 8
            station 0 8
            8x bicycle 0
            7x bicycle 1
            rider
            report 8
            report 9
            report 10
            report 11
            report 12
            report 13
            report 14
            bicycle 1
            rent 0 1 = 15
            riderOf 0 2 = 15
            """);
    }

    private static void ofVans() {
        Rows.told("its station, or the one to which it goes; the minutes of its way that are left, 0 at a station", """
            station 0 1
            station 3 1
            van 0 1
            vanOf 0 0 = 0
            vanOf 0 3 = 0
            go 0 1 = 2
            vanOf 0 0 = 1
            vanOf 0 3 = 2
            pause 1
            vanOf 0 0 = 1
            vanOf 0 3 = 1
            pause 1
            vanOf 0 0 = 1
            vanOf 0 3 = 0
            pause 1
            vanOf 0 3 = 0
            """);
        Rows.told("its room is as it was made, however many it has", """
            station 0 8
            6x bicycle 0
            van 0 6
            vanOf 0 1 = 6
            take 0 0
            take 0 1
            take 0 2
            take 0 3
            take 0 4
            take 0 5
            vanOf 0 1 = 6
            vanOf 0 2 = 63
            """);
    }

    private static void counts() {
        Rows.told("all that there may be", """
            6x station 0 8
            8x bicycle 0
            8x bicycle 1
            8x rider
            2x van 0 6
            count 0 = 6
            count 1 = 16
            count 2 = 8
            count 3 = 2
            count 5 = 16
            count 6 = 0
            count 7 = 0
            count 8 = 0
            count 10 = 48
            count 12 = 48
            """);
        Rows.told("docked, ridden, in vans, in the workshop (also the one that waits), faulty (also ridden and in vans)", """
            station 0 4
            set 1 1
            4x bicycle 0
            rider
            van 0 2
            report 1
            report 2
            rent 0 0 = 0
            report 0
            take 0 1
            take 0 2
            mend 0 2
            count 5 = 1
            count 6 = 1
            count 7 = 1
            count 8 = 1
            count 9 = 3
            3x bicycle 0
            pause 1 = 0
            count 5 = 4
            count 8 = 1
            count 9 = 2
            """);
        Rows.told("what all riders owe: fees and passes, not the fee of a ride that goes on", """
            station 0 2
            2x bicycle 0
            3x rider
            set 2 999
            pass 2
            rent 0 0
            rent 1 0
            pause 6
            count 11 = 999
            back 0 0 = 3
            count 11 = 1002
            back 1 0 = 3
            count 11 = 1005
            """);
        Rows.told("1 if there is a snapshot, otherwise 0; the length of the text; states in the history", """
            count 15 = 0
            count 14 = 0
            count 13 = 0
            keep = 0
            type 32
            pause 1
            count 15 = 1
            count 14 = 1
            count 13 = 1
            """);
    }

    private static void uneven() {
        Rows.told("the difference of twice the bicycles docked there and its docks (without its sign): of 8 docks", """
            station 0 8
            stationOf 0 3 = 8
            bicycle 0
            stationOf 0 3 = 6
            2x bicycle 0
            stationOf 0 3 = 2
            bicycle 0
            stationOf 0 3 = 0
            bicycle 0
            stationOf 0 3 = 2
            3x bicycle 0
            stationOf 0 3 = 8
            """);
        Rows.told("the difference of twice the bicycles docked there and its docks (without its sign): of 1 and 3 docks", """
            station 0 1
            station 0 3
            stationOf 0 3 = 1
            bicycle 0
            stationOf 0 3 = 1
            stationOf 1 3 = 3
            bicycle 1
            stationOf 1 3 = 1
            bicycle 1
            stationOf 1 3 = 1
            bicycle 1
            stationOf 1 3 = 3
            count 12 = 4
            """);
    }

    private static void aims() {
        Rows.told("the aim: no docked bicycles, also where there are others", """
            station 0 3
            stationOf 0 4 = 0
            bicycle 0
            stationOf 0 4 = 1
            rider
            rent 0 0
            stationOf 0 4 = 0
            evening = 0
            """);
        Rows.told("what is left over is added, 1 each: 5 and 0 of 6 stations", """
            6x station 0 2
            2x bicycle 0
            2x bicycle 1
            bicycle 2
            stationOf 0 4 = 1
            stationOf 1 4 = 1
            stationOf 2 4 = 1
            stationOf 3 4 = 1
            stationOf 4 4 = 1
            stationOf 5 4 = 0
            bicycle 5
            stationOf 0 4 = 1
            stationOf 5 4 = 1
            bicycle 5
            stationOf 0 4 = 2
            stationOf 1 4 = 1
            stationOf 5 4 = 1
            2x bicycle 4
            2x bicycle 3
            stationOf 0 4 = 2
            stationOf 4 4 = 2
            stationOf 5 4 = 1
            bicycle 2
            stationOf 0 4 = 2
            stationOf 5 4 = 2
            evening = 0
            """);
        Rows.told("divisions are rounded down: 8 and 1 docks", """
            station 0 8
            station 0 1
            bicycle 1
            stationOf 0 4 = 1
            stationOf 1 4 = 0
            7x bicycle 0
            stationOf 0 4 = 8
            stationOf 1 4 = 0
            bicycle 0
            stationOf 0 4 = 8
            stationOf 1 4 = 1
            """);
        Rows.told("to the stations with the lowest numbers: 1 and 8 docks", """
            station 99 1
            station 0 8
            bicycle 1
            stationOf 0 4 = 1
            stationOf 1 4 = 0
            7x bicycle 1
            stationOf 0 4 = 1
            stationOf 1 4 = 7
            evening = 99
            """);
        Rows.told("all docked bicycles: faulty ones are of them, those in vans and in the workshop are not", """
            station 0 4
            station 0 4
            4x bicycle 0
            2x bicycle 1
            report 0
            stationOf 0 4 = 3
            stationOf 1 4 = 3
            van 0 2
            take 0 0
            stationOf 0 4 = 3
            stationOf 1 4 = 2
            take 0 1
            mend 0 0
            stationOf 0 4 = 2
            stationOf 1 4 = 2
            """);
    }

    private static void possibleMoves() {
        Rows.told("NOT_FOUND if no move helps: no station, one station", """
            move 0 = -4
            move 1 = -4
            move 2 = -4
            move 3 = -1
            move -1 = -1
            station 0 8
            8x bicycle 0
            move 0 = -4
            """);
        Rows.told("A move is possible if a bicycle is docked at the one: none, one", """
            station 0 1
            station 50 8
            move 2 = -4
            bicycle 0
            move 0 = 0
            move 1 = 1
            move 2 = 2
            """);
        Rows.told("A move is possible if a dock is free at the other: none, one", """
            station 0 8
            station 50 1
            8x bicycle 0
            bicycle 1
            rider
            move 2 = -4
            rent 0 1
            move 0 = 0
            move 1 = 1
            move 2 = 2
            """);
        Rows.told("A faulty bicycle can be moved too", """
            station 0 1
            station 50 8
            bicycle 0
            report 0
            move 2 = 2
            """);
        Rows.told("NOT_FOUND if no move helps (by 1 or more): a help of 0 is none, one of 2 is the least", """
            station 0 2
            station 9 2
            2x bicycle 0
            bicycle 1
            move 0 = -4
            move 3 = -1
            van 1 1
            take 0 2
            move 2 = 4
            station 9 1
            take 0 0 = -2
            """);
        Rows.told("its help: 2, the least, and 4, the most", """
            station 0 3
            station 9 3
            2x bicycle 0
            move 2 = 2
            bicycle 0
            move 2 = 4
            """);
        Rows.told("a move that makes both more uneven, or one more and the other less, is none", """
            station 0 4
            station 9 4
            2x bicycle 0
            2x bicycle 1
            move 0 = -4
            bicycle 0
            move 0 = -4
            """);
    }

    private static void firstMoves() {
        Rows.told("the move that helps most: although another way is less", """
            station 0 2
            station 0 1
            station 99 2
            2x bicycle 0
            move 0 = 0
            move 1 = 2
            move 2 = 4
            """);
        Rows.told("the move that helps most: although a later one has a way that is less", """
            station 0 2
            station 99 2
            station 0 1
            2x bicycle 0
            move 0 = 0
            move 1 = 1
            move 2 = 4
            """);
        Rows.told("of several the one with the least way: less by 1, to a higher number", """
            station 50 4
            station 60 4
            station 41 4
            4x bicycle 0
            move 0 = 0
            move 1 = 2
            move 2 = 4
            """);
        Rows.told("of several the one with the least way: less by 1, from a higher number", """
            station 60 4
            station 41 4
            station 50 4
            4x bicycle 0
            4x bicycle 1
            move 0 = 1
            move 1 = 2
            """);
        Rows.told("of several the one with the least way: 0 and 1", """
            station 50 4
            station 51 4
            station 50 4
            4x bicycle 0
            move 1 = 2
            """);
        Rows.told("then the one from the lowest station, although it goes to a higher one", """
            station 10 4
            station 50 4
            station 60 4
            station 20 4
            4x bicycle 0
            4x bicycle 1
            move 0 = 0
            move 1 = 3
            """);
        Rows.told("then to the lowest: above and below", """
            station 30 4
            station 40 4
            station 20 4
            4x bicycle 0
            move 0 = 0
            move 1 = 1
            """);
        Rows.told("then to the lowest: from the last station", """
            station 20 4
            station 40 4
            station 10 1
            station 99 1
            station 98 1
            station 30 4
            4x bicycle 5
            move 0 = 5
            move 1 = 0
            """);
    }

    private static void evening() {
        Rows.told("NOT_FOUND if there is no station", """
            evening = -4
            rider
            evening = -4
            station 0 1
            evening = 0
            """);
        Rows.told("the least way: nothing is to be carried", """
            station 0 4
            station 99 4
            evening = 0
            bicycle 0
            evening = 0
            bicycle 1
            evening = 0
            """);
        Rows.told("the least way: one bicycle along the whole road, and as many as there may be", """
            station 99 8
            station 0 8
            bicycle 1
            evening = 99
            7x bicycle 1
            evening = 396
            """);
        Rows.told("the least way: one bicycle by 1, at both ends of the road", """
            station 0 1
            station 99 1
            station 1 1
            station 98 1
            bicycle 2
            bicycle 3
            evening = 2
            """);
        Rows.told("the least way: from the place 98 to 99, and between two stations at one place", """
            station 99 1
            station 98 1
            station 98 1
            bicycle 2
            evening = 1
            rider
            rent 0 2
            back 0 1
            evening = 1
            """);
        Rows.told("the least sum: each to the near one, not by numbers", """
            station 10 2
            station 60 2
            station 70 2
            station 20 2
            2x bicycle 0
            2x bicycle 1
            evening = 20
            """);
        Rows.told("all 6 stations, 5 left over", """
            station 0 2
            station 20 2
            station 40 2
            station 60 2
            station 80 2
            station 99 2
            2x bicycle 0
            2x bicycle 1
            bicycle 2
            evening = 120
            """);
    }
}
