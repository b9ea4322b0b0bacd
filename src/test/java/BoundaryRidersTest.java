/** The boundary cases in "Riders and rides" and promises 6 to 10: a test a sentence. */
public final class BoundaryRidersTest {
    public static void main(String[] args) {
        passes();
        rent();
        freeMinutes();
        full();
        back();
        fees();
        report();
        severalErrors();
        Checks.end();
    }

    private static void passes() {
        Rows.told("a time until which there is a pass (not from this minute on)", """
            station 0 2
            2x bicycle 0
            2x rider
            pass 0 = 1000
            pass 1 = 1000
            4x pause 200
            pause 199
            riderOf 0 1 = 1
            rent 0 0 = 0
            riderOf 0 4 = 30
            riderOf 0 5 = 0
            pause 1
            riderOf 0 1 = 0
            riderOf 1 1 = 0
            rent 1 0 = 1
            riderOf 1 4 = 0
            riderOf 1 5 = 1
            riderOf 0 4 = 30
            pause 1
            riderOf 1 1 = 0
            """);
        Rows.told("A pass costs setting 2 coins, 0 to 999", """
            rider
            set 2 0
            pass 0 = 1000
            riderOf 0 0 = 0
            riderOf 0 7 = 0
            set 2 999
            pass 0 = 2000
            riderOf 0 0 = 999
            riderOf 0 7 = 999
            count 11 = 999
            """);
        Rows.told("1000 minutes from now on, or from its present end on if that is later", """
            4x rider
            pass 0 = 1000
            pass 1 = 1000
            pass 2 = 1000
            4x pause 200
            pause 199
            pass 0 = 2000
            riderOf 0 1 = 1001
            pause 1
            pass 1 = 2000
            riderOf 1 1 = 1000
            pause 1
            pass 2 = 2001
            pass 3 = 2001
            """);
        Rows.told("LIMIT_REACHED if that would be above 20000", """
            2x rider
            18x pass 0
            pass 0 = 19000
            pass 0 = 20000
            pass 0 = -3
            riderOf 0 0 = 2000
            riderOf 0 1 = 20000
            pause 1
            pass 0 = -3
            18x pass 1
            pass 1 = 19001
            pass 1 = -3
            riderOf 1 7 = 1900
            """);
    }

    private static void rent() {
        Rows.told("NOT_POSSIBLE if the rider has a ride, or there is no bicycle to rent", """
            station 0 3
            station 10 1
            bicycle 1
            3x rider
            rent 0 0 = -2
            bicycle 0
            report 1
            rent 0 0 = -2
            bicycle 0
            rent 0 0 = 2
            rent 1 0 = -2
            rent 0 1 = -2
            rent 1 1 = 0
            rent 2 1 = -2
            back 0 0
            rent 0 0 = 2
            """);
        Rows.told("A bicycle in a van, in the workshop or waiting there is not docked: not to be rented", """
            station 0 1
            set 1 1
            bicycle 0
            rider
            van 0 1
            take 0 0
            rent 0 0 = -2
            mend 0 0
            rent 0 0 = -2
            bicycle 0
            report 1
            pause 1
            bicycleOf 0 0 = 3
            rent 0 0 = -2
            """);
        Rows.told("the one with the fewest minutes, of several the lowest number", """
            station 0 4
            4x bicycle 0
            4x rider
            rent 0 0 = 0
            rent 1 0 = 1
            rent 2 0 = 2
            rent 3 0 = 3
            pause 4
            back 2 0
            back 1 0
            pause 1
            back 0 0
            back 3 0
            bicycleOf 0 2 = 5
            bicycleOf 1 2 = 4
            rent 3 0 = 1
            rent 2 0 = 2
            rent 1 0 = 0
            rent 0 0 = 3
            """);
    }

    private static void freeMinutes() {
        Rows.told("the free minutes of setting 0, as it is then: 0 and 99", """
            station 0 2
            2x bicycle 0
            2x rider
            pass 0
            pass 1
            set 0 99
            rent 0 0
            set 0 0
            rent 1 0
            riderOf 0 4 = 99
            riderOf 1 4 = 0
            riderOf 1 5 = 0
            pause 1
            riderOf 1 5 = 1
            pause 98
            riderOf 0 5 = 0
            pause 1
            riderOf 0 5 = 1
            riderOf 0 4 = 99
            """);
        Rows.told("if there is a pass, and otherwise none: as it is at the beginning", """
            station 0 2
            2x bicycle 0
            2x rider
            rent 0 0
            pass 0
            riderOf 0 4 = 0
            riderOf 0 5 = 1
            pause 1
            riderOf 0 5 = 2
            back 0 0 = 2
            rent 0 0
            riderOf 0 4 = 30
            riderOf 0 5 = 0
            """);
    }

    private static void full() {
        Rows.told("full, when all of its docks are taken: 7 and 8 of 8", """
            station 0 8
            station 10 1
            bicycle 1
            rider
            rent 0 1
            full 0 0 = -2
            7x bicycle 0
            full 0 0 = -2
            bicycle 0
            full 0 0 = 15
            full 0 1 = -2
            """);
        Rows.told("full, when all of its docks are taken: 0 and 1 of 1, by a faulty one", """
            station 0 1
            station 10 1
            bicycle 1
            rider
            rent 0 1
            full 0 0 = -2
            bicycle 0
            report 1
            full 0 0 = 15
            """);
        Rows.told("15 free minutes more, once for each station in a ride: all 6 stations", """
            station 0 1
            station 0 1
            station 0 1
            station 0 1
            station 0 1
            station 0 1
            bicycle 0
            rider
            rent 0 0
            bicycle 0
            bicycle 1
            bicycle 2
            bicycle 3
            bicycle 4
            bicycle 5
            full 0 5 = 15
            full 0 5 = -2
            full 0 0 = 30
            full 0 0 = -2
            full 0 1 = 45
            full 0 2 = 60
            full 0 3 = 75
            full 0 4 = 90
            full 0 4 = -2
            full 0 5 = -2
            riderOf 0 4 = 90
            """);
        Rows.told("the rider told it in this ride: not in an earlier one, and no other rider", """
            station 0 1
            station 9 2
            bicycle 0
            2x bicycle 1
            2x rider
            rent 0 1 = 1
            full 0 0 = 15
            full 0 0 = -2
            rent 1 1 = 2
            full 1 0 = 15
            full 1 0 = -2
            back 0 1 = 1
            full 0 0 = -2
            rent 0 1 = 1
            riderOf 0 4 = 0
            full 0 0 = 15
            full 0 0 = -2
            """);
        Rows.told("told once, although a dock was free in between", """
            station 0 1
            station 9 1
            bicycle 0
            bicycle 1
            rider
            van 0 1
            rent 0 1
            full 0 0 = 15
            take 0 0
            full 0 0 = -2
            put 0 0
            full 0 0 = -2
            riderOf 0 4 = 15
            """);
        Rows.told("the most free minutes: 99 and 15 for each of 6 stations", """
            station 0 1
            station 0 1
            station 0 1
            station 0 1
            station 0 1
            station 0 1
            bicycle 0
            rider
            pass 0
            set 0 99
            rent 0 0
            bicycle 0
            bicycle 1
            bicycle 2
            bicycle 3
            bicycle 4
            bicycle 5
            full 0 0 = 114
            full 0 1
            full 0 2
            full 0 3
            full 0 4
            full 0 5 = 189
            pause 189
            riderOf 0 5 = 0
            pause 1
            riderOf 0 5 = 1
            """);
        Rows.told("NOT_POSSIBLE if the rider has no ride", """
            station 0 1
            bicycle 0
            rider
            full 0 0 = -2
            """);
    }

    private static void back() {
        Rows.told("A ride ends at a station with a free dock: the last of 8, and of 1", """
            station 0 8
            station 9 1
            bicycle 1
            2x rider
            rent 0 1 = 0
            7x bicycle 0
            back 0 0 = 1
            rent 1 0 = 0
            bicycle 0
            back 1 0 = -2
            back 1 1 = 1
            rent 0 0 = 1
            bicycle 0
            back 0 0 = -2
            back 0 1 = -2
            """);
        Rows.told("NOT_POSSIBLE if the rider has no ride: ahead of the first, behind it", """
            station 0 2
            bicycle 0
            2x rider
            back 0 0 = -2
            rent 0 0
            back 1 0 = -2
            back 0 0 = 1
            back 0 0 = -2
            """);
        Rows.told("The minutes of the ride are those since its beginning: 0, 1, and added", """
            station 0 1
            bicycle 0
            rider
            rent 0 0
            riderOf 0 3 = 0
            back 0 0
            bicycleOf 0 2 = 0
            bicycleOf 0 4 = 1
            pause 3
            rent 0 0
            riderOf 0 3 = 0
            pause 1
            riderOf 0 3 = 1
            back 0 0
            bicycleOf 0 2 = 1
            rent 0 0
            pause 9
            bicycleOf 0 2 = 1
            back 0 0
            bicycleOf 0 2 = 10
            bicycleOf 0 4 = 3
            riderOf 0 6 = 3
            """);
    }

    /** The fee after some minutes, as riderOf tells it ahead and as back answers it. */
    private static void fee(String sentence, String begin, int minutes, int fee) {
        String wait = minutes == 0 ? "" : "pause " + minutes + "\n";
        Rows.told(sentence + ", " + minutes + " minutes", begin + wait + "riderOf 0 5 = " + fee + "\nback 0 0 = " + fee);
    }

    private static void fees() {
        String ride = """
            station 0 2
            bicycle 0
            rider
            rent 0 0
            """;
        int[][] withoutPass = {{0, 1}, {1, 2}, {4, 2}, {5, 2}, {6, 3}, {10, 3}, {11, 4}, {200, 41}};
        for (int[] row : withoutPass) {
            fee("1 coin for each 5 minutes, begun ones counting; without a pass 1 coin more", ride, row[0], row[1]);
        }
        String withPass = ride.replace("rent", "pass 0\nrent");
        int[][] thirtyFree = {{0, 0}, {29, 0}, {30, 0}, {31, 1}, {34, 1}, {35, 1}, {36, 2}, {40, 2}, {41, 3}};
        for (int[] row : thirtyFree) {
            fee("of those that are more than the free minutes", withPass, row[0], row[1]);
        }
        String told = """
            station 5 2
            station 9 1
            bicycle 0
            bicycle 1
            rider
            rent 0 0
            full 0 1 = 15
            """;
        int[][] fifteenFree = {{0, 1}, {15, 1}, {16, 2}, {20, 2}, {21, 3}};
        for (int[] row : fifteenFree) {
            fee("more than 15 free minutes, without a pass", told, row[0], row[1]);
        }
        String toldWithPass = told.replace("rent 0 0", "pass 0\nrent 0 0").replace("= 15", "= 45");
        int[][] fortyFiveFree = {{44, 0}, {45, 0}, {46, 1}, {50, 1}, {51, 2}};
        for (int[] row : fortyFiveFree) {
            fee("more than 45 free minutes, with a pass", toldWithPass, row[0], row[1]);
        }
        Rows.told("It is added to what the rider owes: to a pass, also a fee of 0", """
            station 0 1
            bicycle 0
            rider
            pass 0
            rent 0 0
            back 0 0 = 0
            riderOf 0 0 = 100
            rent 0 0
            pause 31
            riderOf 0 0 = 100
            back 0 0 = 1
            riderOf 0 0 = 101
            riderOf 0 7 = 100
            """);
    }

    private static void report() {
        Rows.told("A docked or ridden bicycle can be reported, one in a van or in the workshop can not", """
            station 0 4
            set 1 2
            4x bicycle 0
            rider
            van 0 3
            report 3 = 1
            rent 0 0 = 0
            report 0 = 2
            take 0 1
            report 1 = -2
            mend 0 1
            report 1 = -2
            count 9 = 2
            back 0 0
            bicycle 0
            pause 2
            bicycleOf 1 0 = 3
            bicycleOf 1 3 = 0
            report 1 = -2
            take 0 2
            pause 1
            bicycleOf 1 0 = 0
            report 1 = 3
            """);
        Rows.told("NOT_POSSIBLE if it is faulty: docked, ridden, brought back", """
            station 0 2
            2x bicycle 0
            rider
            report 1 = 1
            report 1 = -2
            rent 0 0 = 0
            report 0 = 2
            report 0 = -2
            back 0 0
            report 0 = -2
            """);
        Rows.told("Returns how many bicycles are faulty then: all 16", """
            station 0 8
            station 0 8
            8x bicycle 0
            8x bicycle 1
            report 0 = 1
            report 1
            report 2
            report 3
            report 4
            report 5
            report 6
            report 7
            report 8
            report 9
            report 10
            report 11
            report 12
            report 13
            report 14 = 15
            report 15 = 16
            report 15 = -2
            count 9 = 16
            """);
    }

    private static void severalErrors() {
        Rows.told("INVALID_ARGUMENT rather than NOT_POSSIBLE: rent", """
            station 0 1
            bicycle 0
            rider
            rent 0 0
            rent 0 0 = -2
            rent 0 1 = -1
            rent 0 -1 = -1
            rent 1 0 = -1
            rent -1 0 = -1
            """);
        Rows.told("INVALID_ARGUMENT rather than NOT_POSSIBLE: back and full", """
            station 0 1
            bicycle 0
            rider
            back 0 0 = -2
            back 0 1 = -1
            back 0 -1 = -1
            back 1 0 = -1
            back -1 0 = -1
            full 0 0 = -2
            full 0 1 = -1
            full 0 -1 = -1
            full 1 0 = -1
            full -1 0 = -1
            """);
    }
}
