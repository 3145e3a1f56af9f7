import java.util.ArrayList;
import java.util.List;

/** THE TEXT letter by letter: each NUMBER beside its bounds, each letter at each place, each end, blanks; the first FAULT. */
public final class TextTest {
    private static final Due DUE = new Due("TextTest");
    /** A text's NUMBERS, and what each may be at most. */
    private static final String[] NAMES = {"A", "S", "W", "C", "U", "K", "D"};
    private static final int[] MOST = {99, 99, 999, 999, 99, 99, 999};

    public static void main(String[] args) {
        numbersWithin();
        numbersTooSmall();
        numbersTooLarge();
        numbersOfFourFigures();
        numbersMissing();
        firstLetter();
        clauseLetter();
        numberLetter();
        endLetter();
        everyEnd();
        blanks();
        noBlankWithinNumbers();
        figuresWhereNoNumberIsDue();
        firstFault();
        leastOfFaults();
        faultOfTheLatest();
        DUE.end();
    }

    private static String text(String... n) {
        return "b" + n[0] + " " + n[1] + " " + n[2] + ";w" + n[3] + " " + n[4] + " " + n[5] + ";v" + n[6] + ";";
    }

    private static String with(int k, String number) {
        String[] all = {"1", "2", "3", "4", "5", "6", "7"};
        all[k] = number;
        return text(all);
    }

    /** The place of the k-th NUMBER of text(): each one ahead of it has one figure and one letter behind it, and so have the words. */
    private static int place(int k) {
        return new int[] {1, 3, 5, 8, 10, 12, 15}[k];
    }

    private static int read(BeansBox box, int k) {
        return k < 3 ? box.told(k) : k < 6 ? box.word(0, k - 3) : box.voice(0);
    }

    private static void fault(String text, int kind, int place) {
        BeansBox box = new BeansBox();
        DUE.is("kitchen of '" + text + "'", Due.tell(box, text), -10 - kind);
        DUE.is("fault of '" + text + "'", box.fault(), place);
    }

    private static void good(String text, int words) {
        BeansBox box = new BeansBox();
        DUE.is("kitchen of '" + text + "'", Due.tell(box, text), words);
        DUE.is("fault of '" + text + "'", box.fault(), -1);
    }

    // ---- NUMBERS

    private static void numbersWithin() {
        for (int k = 0; k < 7; k++) {
            for (int value : new int[] {0, 1, 9, 10, MOST[k] - 1, MOST[k]}) {
                for (String figures : new String[] {"%d", "%02d", "%03d"}) {
                    BeansBox box = Due.box(with(k, String.format(figures, value)));
                    DUE.is(NAMES[k] + " is " + String.format(figures, value), read(box, k), value);
                }
            }
        }
    }

    private static void numbersTooSmall() {
        for (int k = 0; k < 7; k++) {
            fault(with(k, "-1"), 1, place(k));
            fault(with(k, "-0"), 1, place(k));
            fault(with(k, "-2147483648"), 1, place(k));
        }
    }

    private static void numbersTooLarge() {
        for (int k = 0; k < 7; k++) {
            if (MOST[k] == 99) {
                fault(with(k, "100"), 2, place(k));
                fault(with(k, "101"), 2, place(k));
                fault(with(k, "999"), 2, place(k));
            }
            // 2 to the 32 and its like are 0, 5 in the machine's ints
            for (String far : new String[] {"1000", "9999", "2147483647", "2147483648", "4294967296", "4294967301",
                "18446744073709551616", "18446744073709551621"}) {
                fault(with(k, far), 2, place(k));
            }
        }
    }

    private static void numbersOfFourFigures() {
        for (int k = 0; k < 7; k++) {
            good(with(k, "000"), 1);
            good(with(k, "007"), 1);
            fault(with(k, "0000"), 2, place(k));
            fault(with(k, "0007"), 2, place(k));
            fault(with(k, "0".repeat(200)), 2, place(k));
            fault(with(k, "9".repeat(200)), 2, place(k));
        }
    }

    private static void numbersMissing() {
        for (int k = 0; k < 7; k++) {
            // the NUMBERS behind it are taken for it and the next: the last one is missing, at ';'
            fault(with(k, ""), 1, k < 3 ? 5 : k < 6 ? 12 : 15);
        }
        fault("b;", 1, 1);
        fault("b1 2 3;w;", 1, 8);
        fault("b1 2 3;v;", 1, 8);
        fault("b1 2 3 4;", 1, 7);
        fault("b1 2 3;w1 2 3 4;", 1, 14);
        fault("b1 2 3;v1 2;", 1, 10);
    }

    // ---- each letter

    private static boolean figure(int letter) {
        return letter >= '0' && letter <= '9';
    }

    private static void firstLetter() {
        for (int letter = 0; letter < 256; letter++) {
            String text = (char) letter + "1 2 3;";
            if (letter == 'b') {
                good(text, 0);
            } else {
                fault(text, 1, letter == ' ' ? 1 : 0);
            }
        }
    }

    private static void clauseLetter() {
        for (int letter = 0; letter < 256; letter++) {
            String text = "b1 2 3;" + (char) letter + "4 5 6;";
            if (letter == 'w') {
                good(text, 1);
            } else if (letter == 'b') {
                fault(text, 3, 7);
            } else {
                // a VOICE has one NUMBER
                fault(text, 1, letter == ' ' ? 8 : letter == 'v' ? 10 : 7);
            }
        }
    }

    private static void numberLetter() {
        for (int letter = 0; letter < 256; letter++) {
            for (int k = 0; k < 7; k++) {
                String text = with(k, "" + (char) letter);
                if (figure(letter)) {
                    good(text, 1);
                } else if (letter != ' ') {
                    fault(text, 1, place(k));
                }
            }
        }
    }

    private static void endLetter() {
        for (int letter = 0; letter < 256; letter++) {
            String text = "b1 2 3" + (char) letter;
            if (letter == ';') {
                good(text, 0);
            } else {
                fault(text, 1, figure(letter) || letter == ' ' ? 7 : 6);
            }
        }
    }

    // ---- the end

    private static void everyEnd() {
        String whole = " b 10  12 500 ; w345 20 30;v111; w999 99 99 ;v0; ";
        for (int length = 0; length <= whole.length(); length++) {
            String text = whole.substring(0, length);
            String signs = text.replace(" ", "");
            if (signs.isEmpty() || signs.endsWith(";")) {
                good(text, (int) signs.chars().filter(sign -> sign == 'w').count());
            } else {
                fault(text, 1, length);
            }
        }
    }

    // ---- blanks

    private static List<String> tokens() {
        return new ArrayList<>(List.of("b", "10", " ", "12", " ", "500", ";", "w", "345", " ", "20", " ", "30", ";", "v", "111", ";"));
    }

    private static void whole(String text) {
        BeansBox box = new BeansBox();
        DUE.is("kitchen of '" + text + "'", Due.tell(box, text), 1);
        int[] want = {10, 12, 500, 345, 20, 30, 111};
        for (int k = 0; k < want.length; k++) {
            DUE.is(NAMES[k] + " of '" + text + "'", read(box, k), want[k]);
        }
    }

    private static void blanks() {
        for (String blanks : new String[] {"", " ", "  ", " ".repeat(100)}) {
            for (int at = 0; at <= tokens().size(); at++) {
                List<String> all = tokens();
                all.add(at, blanks);
                whole(String.join("", all));
            }
        }
        whole(String.join(" ", tokens()));
        whole(String.join("   ", tokens()));
        for (char other : new char[] {9, 10, 11, 12, 13, 0, 160, 255}) {
            fault("b1" + other + "2 3;", 1, 2);
            fault(other + "b1 2 3;", 1, 0);
            fault("b1 2 3;" + other, 1, 7);
        }
    }

    private static void noBlankWithinNumbers() {
        BeansBox box = Due.box("b1 0 12;");
        DUE.is("a blank makes two NUMBERS", box.told(0), 1);
        DUE.is("a blank makes two NUMBERS", box.told(1), 0);
        DUE.is("side by side they need one", box.told(2), 12);
        fault("b1 0 1 2;", 1, 7);
        fault("b10 123;", 2, 4);
        fault("b1012 3;", 2, 1);
        fault("b10 12;", 1, 6);
        fault("b1 2 3;w345 2030;", 2, 12);
        fault("b1 2 3;v1 11;", 1, 10);
    }

    private static void figuresWhereNoNumberIsDue() {
        fault("1", 1, 0);
        fault("1000", 1, 0);
        fault("b1 2 3;1000", 1, 7);
        fault("b1 2 3 1000;", 1, 7);
        fault("b1 2 3;v1 1000;", 1, 10);
    }

    // ---- which FAULT

    private static void firstFault() {
        fault("b1 2 1000 x", 2, 5);
        fault("b1 2 x 1000", 1, 5);
        fault("b100 100 1000;", 2, 1);
        fault("b1 100 1000;", 2, 3);
        fault("b1 2 3;b1000", 3, 7);
        fault("b1 2 3;v1000;b", 2, 8);
        fault("b1 2 3;x;b", 1, 7);
        fault("w1000 2 3;b", 1, 0);
        // a NUMBER's FAULT is at its first letter, ahead of what follows without a blank
        fault("b1000x", 2, 1);
        fault("b100x", 2, 1);
        fault("b10x", 1, 3);
    }

    private static void leastOfFaults() {
        // 'b' again, and it cannot stand there
        fault("bb", 1, 1);
        fault("b1b", 1, 2);
        fault("b1 2 3b", 1, 6);
        fault("b1 2 3;wb", 1, 8);
        // a ninth 'w', a fifth 'v', and it cannot stand there
        fault("b1 2 3;" + "w1 2 3;".repeat(7) + "w1 2 3w", 1, 62);
        fault("b1 2 3;" + "w1 2 3;".repeat(8) + "vw", 1, 64);
        fault("b1 2 3;" + "v1;".repeat(3) + "v1v", 1, 18);
        fault("b1 2 3;" + "v1;".repeat(4) + "wv", 1, 20);
        // a NUMBER of four figures, and it cannot stand there
        fault("b1 2 3;w4 5 6 7890;", 1, 14);
    }

    private static void faultOfTheLatest() {
        BeansBox box = new BeansBox();
        DUE.is("none at first", box.fault(), -1);
        Due.feed(box, "x");
        DUE.is("none by letters alone", box.fault(), -1);
        box.kitchen();
        DUE.is("the first letter", box.fault(), 0);
        Due.feed(box, "b1 2 3");
        DUE.is("it stays till the next kitchen()", box.fault(), 0);
        box.kitchen();
        DUE.is("of the latest", box.fault(), 6);
        Due.tell(box, "b1 2 3;w1 1 1;v0;");
        DUE.is("no FAULT", box.fault(), -1);
        Due.tell(box, "b1 2 3;w1 1 1;v0;b");
        DUE.is("of the latest", box.fault(), 17);
        box.drift(1);
        box.undo();
        box.keep(0);
        box.goBack(0);
        DUE.is("deeds and IMAGES leave it", box.fault(), 17);
        box.kitchen();
        DUE.is("an empty text has none", box.fault(), -1);
    }
}
