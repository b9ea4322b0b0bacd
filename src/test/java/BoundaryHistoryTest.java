/** The boundary cases in "Changes and errors", and promises 24 to 26: a test a sentence. */
public final class BoundaryHistoryTest {
    /** A road on which every change is possible; its history holds one state, that in which there is nothing. */
    private static final String READY = """
        station 0 3
        station 10 1
        3x bicycle 0
        bicycle 1
        3x rider
        van 0 2
        van 1 1
        rent 0 0
        rent 1 0
        bicycle 0
        take 0 2
        report 4
        text wait 2;
        keep
        4x undo
        restore
        """;
    /** Every change, with its answer on that road. */
    private static final String[][] CHANGES = {
        {"station 5 8", "2"}, {"bicycle 0", "5"}, {"rider", "3"}, {"van 0 6", "-3"}, {"pass 2", "1000"}, {"rent 2 1", "3"},
        {"back 0 0", "1"}, {"full 0 1", "15"}, {"report 1", "2"}, {"take 0 4", "2"}, {"put 0 2", "0"}, {"go 0 1", "6"},
        {"mend 0 2", "60"}, {"pause 5", "0"}, {"set 0 7", "30"}, {"restore", "0"}, {"play", "1"},
    };

    public static void main(String[] args) {
        changes();
        noChanges();
        history();
        snapshot();
        whatIsRecorded();
        errors();
        constants();
        Checks.end();
    }

    private static void changes() {
        for (String[] change : CHANGES) {
            boolean error = change[1].startsWith("-");
            Rows.told("The changes are the calls that return no error: " + change[0], READY + change[0] + " = " + change[1]
                + "\ncount 13 = " + (error ? "1\nundo = 0" : "2\nundo = 1\nundo = 0") + "\nundo = -2");
            if (!error) {
                undone(change[0]);
            }
        }
        Rows.told("The changes are the calls that return no error: van", """
            station 0 1
            van 0 1 = 0
            count 13 = 2
            undo = 1
            count 3 = 0
            van 0 1 = 0
            van 0 1 = 1
            count 13 = 3
            van 0 1 = -3
            undo = 2
            count 3 = 1
            """);
        Rows.told("A setting that is set to what it was, and a pause without anything, are changes too", """
            set 0 30 = 30
            count 13 = 1
            pause 1 = 0
            count 13 = 2
            """);
    }

    private static void undone(String change) {
        Checks.title("each change records everything before it: " + change);
        Checks.holds("undo restores it all", Rows.same(READY + change + "\nundo", READY));
        Checks.holds("it is a change of something", change.equals("restore") || !Rows.same(READY + change, READY));
    }

    private static void noChanges() {
        Rows.told("No other call is a change", READY + """
            count 13 = 1
            keep
            type 59
            clearText
            fault 0 = -4
            stationOf 0 2
            bicycleOf 0 0
            riderOf 0 0
            vanOf 0 0
            count 4
            move 0 = -4
            evening
            count 13 = 1
            undo = 0
            keep
            undo = -2
            count 13 = 0
            """);
        Rows.told("A call that returns an error is no change", READY + """
            station 0 9 = -1
            bicycle 1 = -2
            van 0 1 = -3
            pass 3 = -1
            rent 0 0 = -2
            back 0 1 = -2
            full 0 0 = -2
            report 4 = -2
            take 1 4 = -2
            put 1 2 = -2
            go 0 0 = -2
            mend 1 2 = -2
            pause 0 = -1
            set 1 0 = -1
            text wait 0;
            play = -2
            count 13 = 1
            undo = 0
            undo = -2
            """);
    }

    private static void history() {
        Rows.told("A history of at most 4 states; if there are 5 states then, the oldest one is dropped", """
            undo = -2
            pause 1
            count 13 = 1
            pause 2
            count 13 = 2
            pause 4
            count 13 = 3
            pause 8
            count 13 = 4
            undo = 3
            count 4 = 7
            undo = 2
            count 4 = 3
            undo = 1
            count 4 = 1
            undo = 0
            count 4 = 0
            undo = -2
            """);
        Rows.told("the oldest one is dropped: the fifth change, and the sixth", """
            pause 1
            pause 2
            pause 4
            pause 8
            pause 16
            count 13 = 4
            undo = 3
            count 4 = 15
            pause 32
            pause 64
            count 13 = 4
            undo = 3
            undo = 2
            undo = 1
            undo = 0
            count 4 = 3
            undo = -2
            """);
        Rows.told("the oldest one is dropped: many times", """
            20x pause 1
            count 13 = 4
            4x undo
            count 4 = 16
            count 13 = 0
            undo = -2
            7x pause 2
            4x undo
            count 4 = 22
            undo = -2
            """);
    }

    private static void snapshot() {
        Rows.told("NOT_POSSIBLE if there is none", """
            count 15 = 0
            restore = -2
            pause 3
            restore = -2
            keep = 3
            count 15 = 1
            restore = 3
            """);
        Rows.told("Takes a snapshot of the state: a road without anything, at the time 0", """
            keep = 0
            station 0 1
            bicycle 0
            rider
            van 0 1
            set 1 7
            pause 3
            restore = 0
            count 0 = 0
            count 1 = 0
            count 2 = 0
            count 3 = 0
            count 4 = 0
            count 21 = 60
            bicycle 0 = -1
            station 9 2 = 0
            stationOf 0 0 = 9
            """);
        Rows.told("in place of the one that was", """
            keep = 0
            pause 1
            keep = 1
            pause 1
            restore = 1
            undo
            keep = 2
            undo
            restore = 2
            """);
        Rows.told("the snapshot, which stays: restored again, and behind changes of what was restored", """
            station 0 2
            bicycle 0
            rider
            keep
            rent 0 0 = 0
            restore = 0
            riderOf 0 2 = -4
            rent 0 0 = 0
            set 0 1
            station 5 5
            restore = 0
            count 0 = 1
            count 20 = 30
            riderOf 0 2 = -4
            restore = 0
            count 15 = 1
            """);
        Checks.title("Restores the state of the snapshot: whatever has changed since");
        for (String[] change : CHANGES) {
            if (!change[1].startsWith("-")) {
                // Four changes of nothing fill the history, so that what it held ahead of them tells no difference.
                String four = "4x set 0 30\n";
                Checks.holds(change[0], Rows.same(READY + change[0] + "\nrestore\n" + four, READY + four));
            }
        }
    }

    private static void whatIsRecorded() {
        Rows.told("everything before it but the text and the snapshot: undo", """
            text wait 5;
            pause 1
            clearText
            type 97
            keep
            undo = 0
            count 14 = 1
            fault 1 = 1
            count 15 = 1
            restore = 1
            """);
        Rows.told("everything before it but the text and the snapshot: a snapshot is not put back by undo", """
            pause 1
            keep = 1
            pause 1
            keep = 2
            undo
            undo
            restore = 2
            """);
        Rows.told("the text is no part of the snapshot, nor is the history", """
            text wait 5;
            pause 1
            keep
            clearText
            pause 1
            restore = 1
            count 14 = 0
            count 13 = 3
            type 97
            restore = 1
            count 14 = 1
            count 13 = 4
            """);
        Rows.told("what a ride, a van and the workshop hold is recorded too", """
            station 0 2
            station 10 1
            2x bicycle 0
            bicycle 1
            rider
            van 0 1
            rent 0 0 = 0
            take 0 1
            keep
            full 0 1 = 15
            undo
            full 0 1 = 15
            restore
            full 0 1 = 15
            full 0 1 = -2
            mend 0 1 = 60
            set 1 5
            undo
            undo
            set 1 5
            mend 0 1 = 5
            go 0 1 = 6
            undo
            pause 5 = 1
            undo
            pause 4 = 0
            go 0 1 = 10
            pause 1 = 1
            vanOf 0 3 = 5
            undo
            vanOf 0 3 = 6
            """);
        String mended = """
            station 0 2
            bicycle 0
            van 0 1
            take 0 0
            mend 0 0 = 60
            keep
            pause 60 = 1
            set 1 500
            take 0 0
            mend 0 0 = 560
            """;
        Rows.told("the time when the workshop is done with a bicycle is recorded too", mended + """
            4x undo
            pause 59 = 0
            pause 1 = 1
            """);
        Rows.told("the time when the workshop is done with a bicycle is kept too", mended + """
            restore = 0
            pause 59 = 0
            pause 1 = 1
            undo
            undo
            undo
            pause 200
            pause 200
            pause 99 = 0
            pause 1 = 1
            """);
    }

    private static void errors() {
        Rows.told("NOT_POSSIBLE rather than LIMIT_REACHED, INVALID_ARGUMENT rather than both: bicycle", """
            station 0 8
            station 0 8
            8x bicycle 0
            8x bicycle 1
            bicycle 0 = -2
            bicycle 2 = -1
            station 0 1
            bicycle 2 = -3
            bicycle 3 = -1
            """);
        Rows.told("INVALID_ARGUMENT rather than LIMIT_REACHED: pass and pause", """
            rider
            20x pass 0
            pass 0 = -3
            pass 1 = -1
            44x pause 200
            pause 199
            pause 2 = -3
            pause 201 = -1
            pause 0 = -1
            """);
        Rows.told("INVALID_ARGUMENT rather than NOT_FOUND", """
            station 0 1
            bicycle 0
            rider
            van 0 1
            take 0 0
            mend 0 0
            bicycleOf 0 1 = -4
            bicycleOf 0 5 = -1
            bicycleOf 0 -1 = -1
            bicycleOf 1 1 = -1
            riderOf 0 2 = -4
            riderOf 0 8 = -1
            riderOf 0 -1 = -1
            riderOf 1 2 = -1
            move 2 = -4
            move 3 = -1
            fault 2 = -4
            fault 3 = -1
            """);
        Rows.told("What was refused can be done as soon as it is possible", """
            station 0 1
            bicycle 0
            bicycle 0 = -2
            rider
            rent 0 0 = 0
            bicycle 0 = 1
            back 0 0 = -2
            van 0 1
            take 0 1 = 1
            back 0 0 = 1
            put 0 1 = -2
            rent 0 0 = 0
            put 0 1 = 0
            """);
    }

    private static void constants() {
        Checks.title("The constants");
        Checks.due("INVALID_ARGUMENT", DockedBikes.INVALID_ARGUMENT, -1);
        Checks.due("NOT_POSSIBLE", DockedBikes.NOT_POSSIBLE, -2);
        Checks.due("LIMIT_REACHED", DockedBikes.LIMIT_REACHED, -3);
        Checks.due("NOT_FOUND", DockedBikes.NOT_FOUND, -4);
    }
}
