/** The boundary cases in "Stations and bicycles", of what there is to begin with, and promises 1 to 5: a test a sentence. */
public final class BoundaryBeginningTest {
    public static void main(String[] args) {
        newObject();
        numbersAndSets();
        stations();
        bicycles();
        riders();
        vans();
        numbersOfWhatThereIs();
        Checks.end();
    }

    private static void newObject() {
        Rows.told("Creates a road without anything, at the time 0", """
            count 0 = 0
            count 1 = 0
            count 2 = 0
            count 3 = 0
            count 4 = 0
            count 5 = 0
            count 6 = 0
            count 7 = 0
            count 8 = 0
            count 9 = 0
            count 10 = 0
            count 11 = 0
            count 12 = 0
            count 13 = 0
            count 14 = 0
            count 15 = 0
            count 20 = 30
            count 21 = 60
            count 22 = 100
            stationOf 0 0 = -1
            bicycleOf 0 0 = -1
            riderOf 0 0 = -1
            vanOf 0 0 = -1
            """);
        Rows.told("Nothing can be done on it", """
            bicycle 0 = -1
            van 0 1 = -1
            pass 0 = -1
            rent 0 0 = -1
            back 0 0 = -1
            full 0 0 = -1
            report 0 = -1
            take 0 0 = -1
            put 0 0 = -1
            go 0 0 = -1
            mend 0 0 = -1
            move 0 = -4
            evening = -4
            restore = -2
            undo = -2
            fault 0 = -4
            """);
        Rows.told("An object is used for at most 512 calls: the last of them", """
            511x pause 1
            count 4 = 511
            """);
    }

    private static void numbersAndSets() {
        Rows.told("Time is told in minutes, 0 at first", """
            count 4 = 0
            pause 1
            count 4 = 1
            """);
        Rows.told("Sets are told as bits: bit k is for number k, 0 to 15", """
            station 0 8
            station 0 8
            station 0 1
            stationOf 0 2 = 0
            8x bicycle 0
            7x bicycle 1
            stationOf 0 2 = 255
            stationOf 1 2 = 32512
            bicycle 2 = 15
            stationOf 2 2 = 32768
            van 2 1
            van 0 6
            vanOf 0 2 = 0
            take 0 15
            vanOf 0 2 = 32768
            stationOf 2 2 = 0
            take 1 0
            vanOf 1 2 = 1
            stationOf 0 2 = 254
            take 1 7
            vanOf 1 2 = 129
            """);
    }

    private static void stations() {
        Rows.told("place: 0 to 99", """
            station -1 4 = -1
            station 100 4 = -1
            station 0 4 = 0
            station 99 4 = 1
            station -1 4 = -1
            station 100 4 = -1
            stationOf 0 0 = 0
            stationOf 1 0 = 99
            count 0 = 2
            """);
        Rows.told("docks: 1 to 8", """
            station 50 0 = -1
            station 50 9 = -1
            station 50 -1 = -1
            station 50 1 = 0
            station 50 8 = 1
            station 50 0 = -1
            station 50 9 = -1
            stationOf 0 1 = 1
            stationOf 1 1 = 8
            count 10 = 9
            """);
        Rows.told("place and docks: far out of range", """
            station -2147483648 1 = -1
            station 2147483647 1 = -1
            station 256 1 = -1
            station -65536 1 = -1
            station 0 -2147483648 = -1
            station 0 2147483647 = -1
            station 0 257 = -1
            station 0 -65535 = -1
            station 2147483647 -2147483648 = -1
            """);
        Rows.told("There are at most 6 stations, numbered from 0", """
            station 0 1 = 0
            station 0 1 = 1
            station 0 1 = 2
            station 0 1 = 3
            station 0 1 = 4
            station 0 1 = 5
            station 0 1 = -3
            count 0 = 6
            undo
            count 0 = 5
            station 7 2 = 5
            station 7 2 = -3
            stationOf 5 0 = 7
            """);
        Rows.told("A seventh station out of range: INVALID_ARGUMENT rather than LIMIT_REACHED", """
            6x station 0 1
            station -1 1 = -1
            station 100 1 = -1
            station 0 0 = -1
            station 0 9 = -1
            station 99 8 = -3
            """);
        Rows.told("The way between two stations is the difference of their places, 0 to 99, in both directions", """
            station 0 1
            station 99 1
            station 99 1
            van 0 1
            go 0 1 = 50
            pause 50
            go 0 2 = 51
            pause 1
            go 0 0 = 101
            """);
    }

    private static void bicycles() {
        Rows.told("NOT_POSSIBLE if no dock is free there: 1 dock, 8 docks", """
            station 0 1
            station 0 8
            bicycle 0 = 0
            bicycle 0 = -2
            6x bicycle 1
            bicycle 1 = 7
            bicycle 1 = 8
            bicycle 1 = -2
            stationOf 0 2 = 1
            stationOf 1 2 = 510
            """);
        Rows.told("There are at most 16 bicycles, numbered from 0", """
            station 0 8
            station 0 8
            station 0 1
            bicycle 0 = 0
            7x bicycle 0
            6x bicycle 1
            bicycle 1 = 14
            bicycle 1 = 15
            bicycle 2 = -3
            count 1 = 16
            bicycleOf 15 0 = 0
            bicycleOf 16 0 = -1
            """);
        Rows.told("A seventeenth: NOT_POSSIBLE and INVALID_ARGUMENT rather than LIMIT_REACHED", """
            station 0 8
            station 0 8
            station 0 1
            8x bicycle 0
            8x bicycle 1
            bicycle 0 = -2
            bicycle 3 = -1
            bicycle -1 = -1
            bicycle 2 = -3
            """);
        Rows.told("Those that are ridden, in a van or in the workshop are of the 16", """
            station 0 8
            station 0 8
            8x bicycle 0
            rider
            van 0 6
            rent 0 0 = 0
            take 0 1
            take 0 2
            mend 0 2
            8x bicycle 1
            bicycle 0 = -3
            """);
        Rows.told("A bicycle has 0 minutes at first, and is not faulty", """
            station 0 1
            station 9 1
            bicycle 1
            bicycleOf 0 0 = 0
            bicycleOf 0 1 = 1
            bicycleOf 0 2 = 0
            bicycleOf 0 3 = 0
            bicycleOf 0 4 = 0
            """);
    }

    private static void riders() {
        Rows.told("There are at most 8 riders, numbered from 0", """
            rider = 0
            5x rider
            rider = 6
            rider = 7
            rider = -3
            count 2 = 8
            riderOf 7 0 = 0
            riderOf 8 0 = -1
            """);
        Rows.told("A rider owes 0 at first, and has neither a pass nor a ride", """
            rider
            riderOf 0 0 = 0
            riderOf 0 1 = 0
            riderOf 0 2 = -4
            riderOf 0 6 = 0
            riderOf 0 7 = 0
            """);
    }

    private static void vans() {
        Rows.told("There are at most 2 vans, numbered from 0", """
            station 0 1
            van 0 1 = 0
            van 0 1 = 1
            van 0 1 = -3
            count 3 = 2
            vanOf 1 0 = 0
            vanOf 2 0 = -1
            """);
        Rows.told("A third out of range: INVALID_ARGUMENT rather than LIMIT_REACHED", """
            station 0 1
            2x van 0 1
            van 1 1 = -1
            van -1 1 = -1
            van 0 0 = -1
            van 0 7 = -1
            """);
        Rows.told("room: 1 to 6", """
            station 0 1
            van 0 0 = -1
            van 0 7 = -1
            van 0 -1 = -1
            van 0 -2147483648 = -1
            van 0 2147483647 = -1
            van 0 257 = -1
            van 0 1 = 0
            van 0 0 = -1
            van 0 7 = -1
            van 0 6 = 1
            vanOf 0 1 = 1
            vanOf 1 1 = 6
            """);
        Rows.told("A van is at its station at once, also later than at the time 0", """
            station 0 1
            station 50 1
            bicycle 1
            van 0 1
            vanOf 0 3 = 0
            pause 7
            van 1 1
            vanOf 1 3 = 0
            take 1 0 = 1
            """);
    }

    /** For each call and each of its numbers: the one below the first, the first, the last, and the one above the last. */
    private static void numbersOfWhatThereIs() {
        String begin = """
            station 0 4
            station 10 4
            bicycle 0
            bicycle 0
            rider
            rider
            van 0 2
            van 0 2
            """;
        String riding = """
            rent 0 0
            rent 1 0
            """;
        String fullRoad = """
            rent 0 0
            rent 1 0
            4x bicycle 0
            4x bicycle 1
            """;
        String loaded = """
            take 0 0
            take 1 1
            """;
        numbers(begin, "bicycle # ", "");
        numbers(begin, "pass # ", "");
        numbers(begin, "rent # ", "0");
        numbers(begin + "bicycle 1\n", "rent 0 ", "#");
        numbers(begin + riding, "back # ", "0");
        numbers(begin + riding, "back 0 ", "#");
        numbers(begin + fullRoad, "full # ", "0");
        numbers(begin + fullRoad, "full 0 ", "#");
        numbers(begin, "report # ", "");
        numbers(begin, "take # ", "0");
        numbers(begin, "take 0 ", "#");
        numbers(begin + loaded, "put # ", "@");
        numbers(begin + loaded, "put @ ", "#");
        numbers(begin + loaded, "mend # ", "@");
        numbers(begin + loaded, "mend @ ", "#");
        numbers(begin, "go # ", "1");
        numbers(begin + "go 0 1\npause 10\n", "go @ ", "#");
        for (String call : new String[] {"stationOf", "bicycleOf", "riderOf", "vanOf"}) {
            numbers(begin, call + " # ", "0");
        }
        String oneVan = begin.substring(0, begin.lastIndexOf("van"));
        numbers(oneVan, "van # ", "1");
    }

    /** There are two of each kind: # is the number that is tried, and @ the one that goes with it. */
    private static void numbers(String begin, String first, String second) {
        for (int number : new int[] {-1, 0, 1, 2, Integer.MIN_VALUE, Integer.MAX_VALUE, 256, 65536, -65535}) {
            boolean there = number == 0 || number == 1;
            String tried = String.valueOf(number);
            String call = (first + second).replace("#", tried).replace("@", there ? tried : "0").trim();
            Rows.told("INVALID_ARGUMENT if there is no such number", begin + call + (there ? "" : " = -1"));
        }
    }
}
