/** The boundary cases in "Texts", and promises 27 to 30: a test a sentence. */
public final class BoundaryTextsTest {
    /** For each command what has to be ahead of it so that it is possible with numbers 0, or 1 for "wait". */
    private static final String[][] COMMANDS = {
        {"rent", "0", "0", "station 0 1\nbicycle 0\nrider\n"},
        {"back", "0", "0", "station 0 1\nbicycle 0\nrider\nrent 0 0\n"},
        {"full", "0", "0", "station 0 1\nbicycle 0\nrider\nrent 0 0\nbicycle 0\n"},
        {"fault", "0", "", "station 0 1\nbicycle 0\n"},
        {"take", "0", "0", "station 0 1\nbicycle 0\nvan 0 1\n"},
        {"put", "0", "0", "station 0 1\nbicycle 0\nvan 0 1\ntake 0 0\n"},
        {"go", "0", "0", "station 0 1\nstation 9 1\nvan 1 1\n"},
        {"mend", "0", "0", "station 0 1\nbicycle 0\nvan 0 1\ntake 0 0\n"},
        {"pass", "0", "", "rider\n"},
        {"wait", "1", "", ""},
    };
    /** Eight commands, as many as there may be, that have 60 characters together. */
    private static final String EIGHT = "wait 1;wait 1;wait 1;wait 1;wait 01;wait 01;wait 01;wait 01;";

    public static void main(String[] args) {
        type();
        clearText();
        words();
        digits();
        forms();
        positions();
        causes();
        faultOrNot();
        play();
        Checks.end();
    }

    private static void type() {
        Rows.told("character: 32 to 126", """
            type 31 = -1
            type 127 = -1
            type 32 = 1
            type 126 = 2
            type 31 = -1
            type 127 = -1
            type -1 = -1
            type 0 = -1
            type -2147483648 = -1
            type 2147483647 = -1
            type 321 = -1
            type 65601 = -1
            type -65471 = -1
            count 14 = 2
            """);
        Rows.told("LIMIT_REACHED if it has 60 characters; out of range, INVALID_ARGUMENT rather than that", """
            58x type 97
            type 97 = 59
            type 97 = 60
            type 97 = -3
            type 32 = -3
            type 126 = -3
            type 31 = -1
            type 127 = -1
            count 14 = 60
            """);
        Rows.told("Nothing is appended to a text of 60 characters, whatever it is", "text " + EIGHT + """

            type 59 = -3
            type 32 = -3
            fault 0 = -4
            play = 8
            """);
    }

    private static void clearText() {
        Rows.told("Returns the length it had: 0, 1, 60", """
            count 14 = 0
            clearText = 0
            type 97 = 1
            clearText = 1
            count 14 = 0
            60x type 97
            clearText = 60
            clearText = 0
            59x type 98
            type 98 = 60
            type 98 = -3
            """);
        Rows.told("Nothing of it is left behind a shorter one", """
            text wait 1;wait 2;
            clearText = 14
            fault 0 = -4
            play = 0
            text wait 1
            fault 0 = 0
            fault 1 = 1
            type 59 = 7
            fault 0 = -4
            play = 1
            count 4 = 1
            """);
    }

    private static void right(String sentence, String begin, String text) {
        Rows.told(sentence + ": " + text, begin + "text " + text + "\nfault 0 = -4\nfault 1 = -4\nfault 2 = -4\nplay = 1");
    }

    private static void wrongForm(String sentence, String begin, String text, int position) {
        Rows.told(sentence + ": " + text, begin + "text " + text + "\nfault 0 = " + position
            + "\nfault 1 = 1\nfault 2 = -4\nplay = -2");
    }

    private static String join(String word, String first, String second) {
        return word + " " + first + (second.isEmpty() ? "" : " " + second) + ";";
    }

    private static void words() {
        for (String[] c : COMMANDS) {
            String text = join(c[0], c[1], c[2]);
            right("commands, each followed by \";\"", c[3], text);
            String sentence = "of this form, its \";\" included";
            for (int length = 1; length < text.length(); length++) {
                wrongForm(sentence, c[3], text.substring(0, length), 0);
            }
            wrongForm(sentence, c[3], text.toUpperCase(), 0);
            wrongForm(sentence, c[3], text.substring(1), 0);
            wrongForm(sentence, c[3], c[0] + text, 0);
            wrongForm(sentence, c[3], text.replace(";", " 0;"), 0);
            wrongForm(sentence, c[3], text.replace(";", ":"), 0);
            wrongForm(sentence, c[3], text.replace(";", "<"), 0);
            wrongForm(sentence, c[3], text.replace(c[0] + " ", c[0] + "s "), 0);
            wrongForm(sentence, c[3], text.replace(c[0] + " ", c[0].substring(0, c[0].length() - 1) + " "), 0);
            for (int at = 0; at < c[0].length(); at++) {
                char other = (char) (c[0].charAt(at) + 1);
                wrongForm(sentence, c[3], text.substring(0, at) + other + text.substring(at + 1), 0);
            }
            blanks(c, text);
            cutOff(c[3], text);
        }
        for (String word : new String[] {"report", "pause", "set", "station", "bicycle", "rider", "van", "keep", "undo"}) {
            wrongForm("no such command", "station 0 2\nbicycle 0\n", join(word, "0", ""), 0);
            wrongForm("no such command", "station 0 2\nbicycle 0\n", join(word, "0", "1"), 0);
        }
    }

    private static void blanks(String[] c, String text) {
        String sentence = "one blank between two";
        wrongForm(sentence, c[3], text.replace(c[0] + " ", c[0]), 0);
        wrongForm(sentence, c[3], text.replace(c[0] + " ", c[0] + "  "), 0);
        wrongForm(sentence, c[3], text.replace(c[0] + " ", c[0] + "!"), 0);
        wrongForm(sentence, c[3], " " + text, 0);
        wrongForm(sentence, c[3], text.replace(";", " ;"), 0);
        wrongForm(sentence, c[3], text + " ", text.length());
        if (!c[2].isEmpty()) {
            wrongForm(sentence, c[3], text.replace(" 0;", "  0;"), 0);
            wrongForm(sentence, c[3], text.replace(" 0;", "0;"), 0);
            wrongForm(sentence, c[3], text.replace(" 0;", ",0;"), 0);
            wrongForm(sentence, c[3], text.replace(" 0;", ";"), 0);
        }
    }

    /** Behind as many commands as leave room for just that much of it in the text. */
    private static void cutOff(String begin, String text) {
        for (int length = 1; length < text.length(); length++) {
            wrongForm("cut off by the 60 characters", begin, waits(60 - length) + text.substring(0, length), 60 - length);
        }
        String ahead = waits(60 - text.length());
        int commands = ahead.split(";").length + 1;
        Rows.told("the last of the 60 characters is its \";\"", begin + "text " + ahead + text
            + "\ncount 14 = 60\nfault 0 = -4\nplay = " + commands);
    }

    /** Commands that have as many characters together, from 42 on. */
    private static String waits(int length) {
        StringBuilder text = new StringBuilder();
        while (text.length() < length) {
            int left = length - text.length();
            // What is left has to be 0, or enough for another command.
            text.append(left % 7 == 0 ? "wait 1;" : left % 7 == 1 ? "wait 01;" : "wait 001;");
        }
        return text.toString();
    }

    private static void digits() {
        String sentence = "numbers have one to three digits, 0 ahead allowed";
        for (String[] c : COMMANDS) {
            for (String ahead : new String[] {"0", "00"}) {
                right(sentence, c[3], join(c[0], ahead + c[1], c[2]));
            }
            wrongForm(sentence, c[3], join(c[0], "", c[2]), 0);
            wrongForm(sentence, c[3], join(c[0], "000" + c[1], c[2]), 0);
            if (!c[2].isEmpty()) {
                right(sentence, c[3], join(c[0], c[1], "00"));
                right(sentence, c[3], join(c[0], c[1], "000"));
                right(sentence, c[3], join(c[0], "000", "000"));
                wrongForm(sentence, c[3], join(c[0], c[1], "0000"), 0);
                wrongForm(sentence, c[3], c[0] + " 0 ;", 0);
            }
        }
        String[] noNumbers = {"/", ":", "1/", "1:", "/1", ":1", "-1", "+1", "1.", "a", "1a", "1 1", "1000", "9999"};
        for (String number : noNumbers) {
            wrongForm("no digits: the signs beside 0 and 9, and others", "", join("wait", number, ""), 0);
        }
        Rows.told("each digit from 0 to 9, in each of three places", """
            text wait 123;
            play = 1
            count 4 = 123
            text wait 045;
            play = 1
            count 4 = 168
            text wait 67;
            play = 1
            count 4 = 235
            text wait 089;
            play = 1
            count 4 = 324
            text wait 190;
            play = 1
            count 4 = 514
            """);
        Rows.told("the greatest number of three digits has the form, and 1000 has not", """
            text wait 999;
            fault 1 = 2
            fault 2 = -1
            text wait 1000;
            fault 1 = 1
            fault 2 = -4
            """);
    }

    private static void forms() {
        wrongForm("each followed by \";\"", "", ";", 0);
        wrongForm("each followed by \";\"", "", " ", 0);
        wrongForm("each followed by \";\"", "", "~", 0);
        wrongForm("each followed by \";\": no empty command", "", "wait 1;;", 7);
        wrongForm("each followed by \";\": none of it is missing", "", "wait 1wait 1;", 0);
        Rows.told("the first is of the form, the second is not: what could be done ahead is not done", """
            text wait 5;wait
            fault 0 = 7
            fault 1 = 1
            play = -2
            count 4 = 0
            """);
    }

    private static void positions() {
        Rows.told("the position, from 0: the first and the last that there is", """
            text x
            fault 0 = 0
            text wait 1;wait 1;wait 1;wait 1;wait 1;wait 01;wait 01;wait 01;;
            count 14 = 60
            fault 0 = 59
            fault 1 = 1
            fault 2 = -4
            """);
        Rows.told("the first character of the first command that is not possible, and not of a later one", """
            text wait 1;wait 0;wait;
            fault 0 = 7
            fault 1 = 2
            fault 2 = -1
            text wait 1;wait;wait 0;
            fault 0 = 7
            fault 1 = 1
            fault 2 = -4
            """);
        Rows.told("the blank behind a \";\" is the first character of the next command", """
            text wait 1; wait 1;
            fault 0 = 7
            fault 1 = 1
            """);
        Rows.told("a command that the 60 characters cut off", """
            text wait 1;wait 1;wait 1;wait 1;wait 1;wait 1;wait 1;wait 1;wait
            count 14 = 60
            type 32 = -3
            fault 0 = 56
            fault 1 = 1
            play = -2
            """);
        Rows.told("when those ahead of it are done: it is possible only then, or only without them", """
            station 0 1
            bicycle 0
            rider
            text back 0 0;
            fault 0 = 0
            fault 1 = 2
            fault 2 = -2
            text rent 0 0;back 0 0;
            fault 0 = -4
            text rent 0 0;back 0 0;back 0 0;
            fault 0 = 18
            fault 2 = -2
            text rent 0 0;rent 0 0;
            fault 0 = 9
            fault 2 = -2
            count 6 = 0
            """);
        Rows.told("vans arrive in a text: a minute ahead, and in time", """
            station 0 1
            station 10 1
            van 0 1
            text go 0 1;wait 5;go 0 0;
            fault 0 = 14
            fault 2 = -2
            text go 0 1;wait 6;go 0 0;
            fault 0 = -4
            play = 3
            vanOf 0 3 = 6
            """);
    }

    private static void wrongCall(String begin, String text, int position, int cause) {
        Rows.told("its cause is the error code that the call returns for it: " + text, begin + "text " + text
            + "\nfault 0 = " + position + "\nfault 1 = 2\nfault 2 = " + cause + "\nfault 3 = -1\nfault -1 = -1\nplay = -2");
    }

    private static void causes() {
        for (String[] c : COMMANDS) {
            // There are one or two of each, so that 3 is a number of none; as minutes, 0 is too few.
            boolean wait = c[0].equals("wait");
            wrongCall(c[3], join(c[0], wait ? "0" : "3", c[2]), 0, -1);
            if (!c[2].isEmpty()) {
                wrongCall(c[3], join(c[0], c[1], "3"), 0, -1);
                wrongCall(c[3], join(c[0], c[1], "999"), 0, -1);
                wrongCall(c[3], join(c[0], c[1], c[2]) + join(c[0], c[1], c[2]), c[0].length() + 5, -2);
            }
        }
        wrongCall("station 0 1\nbicycle 0\n", "fault 0;fault 0;", 8, -2);
        Rows.told("wait: 200 minutes, and 201", """
            text wait 200;
            fault 0 = -4
            text wait 201;
            fault 1 = 2
            fault 2 = -1
            text wait 000;
            fault 1 = 2
            fault 2 = -1
            """);
        wrongCall("44x pause 200\n", "wait 200;wait 1;", 9, -3);
        wrongCall("44x pause 200\n", "wait 199;wait 2;", 9, -3);
        wrongCall("44x pause 200\n", "wait 200;wait 201;", 9, -1);
        wrongCall("rider\n18x pass 0\n", "pass 0;pass 0;pass 0;", 14, -3);
        wrongCall("rider\n20x pass 0\n", "pass 1;", 0, -1);
    }

    private static void faultOrNot() {
        Rows.told("NOT_FOUND if the text has no fault (also if it is empty), for 2 if its reason is 1", """
            fault 0 = -4
            fault 1 = -4
            fault 2 = -4
            fault -1 = -1
            fault 3 = -1
            text wait 1;
            fault 0 = -4
            fault 1 = -4
            fault 2 = -4
            fault 3 = -1
            text wait
            fault 0 = 0
            fault 1 = 1
            fault 2 = -4
            fault 3 = -1
            fault -2147483648 = -1
            fault 2147483647 = -1
            text wait 0;
            fault 0 = 0
            fault 1 = 2
            fault 2 = -1
            """);
        Rows.told("The fault is that of the state as it is now", """
            text pass 0;
            fault 2 = -1
            rider
            fault 0 = -4
            play = 1
            undo
            fault 0 = -4
            undo
            fault 2 = -1
            """);
    }

    private static void play() {
        Rows.told("They are one change, also if there are none", """
            play = 0
            count 13 = 1
            pause 1
            play = 0
            count 13 = 3
            undo = 2
            count 4 = 1
            undo = 1
            count 4 = 0
            undo = 0
            undo = -2
            """);
        Rows.told("They are one change: eight commands, the most", "text " + EIGHT + """

            count 14 = 60
            play = 8
            count 4 = 8
            count 13 = 1
            count 14 = 60
            play = 8
            count 4 = 16
            count 13 = 2
            undo = 1
            count 4 = 8
            count 14 = 60
            """);
        Rows.told("NOT_POSSIBLE if it has a fault: in its last command, in its last character", """
            text wait 1;wait 1;wait 1;wait 1;wait 1;wait 1;wait 1;wait 0;
            play = -2
            count 4 = 0
            count 13 = 0
            text wait 1;wait 1;wait 1;wait 1;wait 1;wait 1;wait 1;wait 1;;
            play = -2
            count 4 = 0
            count 13 = 0
            """);
        Rows.told("Does all commands of the text: each kind of them", """
            station 0 2
            station 4 1
            2x bicycle 0
            bicycle 1
            rider
            van 0 2
            text pass 0;rent 0 0;full 0 1;take 0 1;go 0 1;wait 3;put 0 1;
            fault 0 = 48
            fault 2 = -2
            text pass 0;rent 0 0;full 0 1;take 0 1;go 0 1;wait 3;take 0 2;
            fault 0 = -4
            play = 7
            riderOf 0 1 = 997
            riderOf 0 4 = 45
            vanOf 0 2 = 6
            text put 0 1;go 0 0;wait 3;mend 0 2;fault 0;back 0 0;
            play = 6
            bicycleOf 1 1 = 1
            bicycleOf 2 0 = 3
            bicycleOf 0 3 = 1
            riderOf 0 6 = 1
            riderOf 0 0 = 100
            """);
    }
}
