import java.math.BigInteger;

/** The text of a file at its edges: the last that is taken, the first that is refused, and where its fault lies. */
public final class TextEdgesTest extends Checks {
    private static final int BYTE = 1;
    private static final int NUMBER = 2;
    private static final int TWICE = 3;
    // The place of the first rect's ID in what it begins is 16, of its x1 18.
    private static final String HEAD = "page 3 1 1;";

    /** M 3 to 8, m 1 to 4, twice m at most M, p 1 to 3, M and 1 less p at least m: each by itself and together. */
    private static void numbersOfPages() {
        about("M, m, p");
        for (int most = 0; most <= 12; most++) {
            for (int least = 0; least <= 6; least++) {
                for (int again = 0; again <= 5; again++) {
                    pageNumbers(most, least, again);
                }
            }
        }
        dueFault("page 2 1 1", 5, NUMBER);
        dueTaken("page 3 1 1", 0);
        dueTaken("page 8 1 1", 0);
        dueFault("page 9 1 1", 5, NUMBER);
        dueFault("page 8 0 1", 7, NUMBER);
        dueTaken("page 8 4 1", 0);
        dueFault("page 8 5 1", 7, NUMBER);
        dueTaken("page 6 3 1", 0);
        dueFault("page 5 3 1", 7, NUMBER);
        dueFault("page 3 1 0", 9, NUMBER);
        // 2 are left of 5, and 2 are enough.
        dueTaken("page 4 2 3", 0);
        dueFault("page 3 1 4", 9, NUMBER);
    }

    private static void pageNumbers(int most, int least, int again) {
        String text = "page " + most + " " + least + " " + again;
        int placeOfLeast = 6 + ("" + most).length();
        int placeOfAgain = placeOfLeast + 2;
        if (most < 3 || most > 8) {
            dueFault(text, 5, NUMBER);
        } else if (least < 1 || least > 4 || 2 * least > most) {
            dueFault(text, placeOfLeast, NUMBER);
        } else if (again < 1 || again > 3 || most + 1 - again < least) {
            dueFault(text, placeOfAgain, NUMBER);
        } else {
            RectFile f = new RectFile();
            due("file of " + text, tell(f, text), 0);
            due("M", f.count(3), most);
            due("m", f.count(4), least);
            due("p", f.count(5), again);
        }
    }

    private static void ids() {
        about("ID 0 to 99");
        RectFile f = told(HEAD + "rect 0 1 2 3 4;rect 99 5 6 7 8");
        dueRect(f, 0, 1, 2, 3, 4);
        dueRect(f, 99, 5, 6, 7, 8);
        dueFault(HEAD + "rect 100 0 0 0 0", 16, NUMBER);
        dueFault(HEAD + "rect 256 0 0 0 0", 16, NUMBER);
        dueFault(HEAD + "rect -0 0 0 0 0", 16, BYTE);
        dueTaken(HEAD + "rect 0099 0 0 0 0", 1);
        dueFault(HEAD + "rect 00100 0 0 0 0", 16, NUMBER);
    }

    private static void sides() {
        about("X, Y -1000 to 1000");
        for (int which = 0; which < 4; which++) {
            for (int value : new int[] {-1001, -1000, 1000, 1001}) {
                int[] sides = {-1000, -1000, 1000, 1000};
                sides[which] = value;
                StringBuilder text = new StringBuilder(HEAD + "rect 7");
                int place = 0;
                for (int i = 0; i < 4; i++) {
                    place = i == which ? text.length() + 1 : place;
                    text.append(' ').append(sides[i]);
                }
                if (Math.abs(value) > 1000) {
                    dueFault(text.toString(), place, NUMBER);
                } else {
                    dueRect(told(text.toString()), 7, sides[0], sides[1], sides[2], sides[3]);
                }
            }
        }
    }

    private static void lowAndHigh() {
        about("low ones not above high ones");
        dueTaken(HEAD + "rect 7 5 5 5 5", 1);
        dueFault(HEAD + "rect 7 6 5 5 5", 22, NUMBER);
        dueFault(HEAD + "rect 7 5 6 5 5", 24, NUMBER);
        dueFault(HEAD + "rect 7 6 6 5 5", 22, NUMBER);
        dueFault(HEAD + "rect 7 -5 -5 -6 -5", 24, NUMBER);
        dueFault(HEAD + "rect 7 -5 -5 -5 -6", 27, NUMBER);
        dueTaken(HEAD + "rect 7 -1000 1000 -1000 1000", 1);
    }

    private static void idsOnce() {
        about("each ID once");
        String one = HEAD + "rect 7 0 0 0 0";
        dueTaken(one + ";rect 8 0 0 0 0", 2);
        dueFault(one + ";rect 7 0 0 0 0", one.length() + 6, TWICE);
        dueFault(one + ";rect 007 0 0 0 0", one.length() + 6, TWICE);
        // The ID stands ahead of all that is wrong behind it.
        dueFault(one + ";rect 7 x", one.length() + 6, TWICE);
        dueFault(one + ";rect 7", one.length() + 6, TWICE);
        // An ID that is not as told was never told.
        dueFault(HEAD + "rect 100 0 0 0 0;rect 100 0 0 0 0", 16, NUMBER);
        String nineteen = rects(19);
        dueFault(nineteen + ";rect0 0 0 0 0", nineteen.length() + 5, TWICE);
        dueFault(nineteen + ";rect18 0 0 0 0", nineteen.length() + 5, TWICE);
        dueTaken(nineteen + ";rect19 0 0 0 0", 20);
    }

    /** As short as can be: 20 take 299 bytes, so that the WORD of a 21st has no room in a text. */
    private static String rects(int n) {
        StringBuilder text = new StringBuilder("page3 1 1");
        for (int i = 0; i < n; i++) {
            text.append(";rect").append(i).append(" 0 0 0 0");
        }
        return text.toString();
    }

    private static void twentyRects() {
        about("20 rects, 300 bytes");
        due("bytes", rects(20).length(), 299);
        dueTaken(rects(20), 20);
        dueTaken(rects(20) + " ", 20);
        dueFault(rects(20) + ";", 300, BYTE);
        dueFault(rects(20) + "x", 299, BYTE);
    }

    private static void fullTape() {
        about("300 bytes at most");
        String blanks = " ".repeat(290);
        dueTaken("page 3 1 1" + blanks, 0);
        dueTaken(blanks + "page 3 1 1", 0);
        dueFault(" ".repeat(300), 300, BYTE);
        dueFault(" ".repeat(299) + "p", 299, BYTE);
        dueFault("page 3 1 1" + " ".repeat(289) + ";", 300, BYTE);
        dueFault("page" + " ".repeat(296), 300, BYTE);
        dueFault("a".repeat(300), 0, BYTE);
        dueFault("page" + "3".repeat(296), 4, NUMBER);
        dueTaken("page" + "0".repeat(291) + "3 1 1", 0);
    }

    /** Numbers that would wrap round to one that is as told. */
    private static void longNumbers() {
        about("long NUMBERS");
        for (int bits : new int[] {8, 16, 31, 32, 63, 64, 128}) {
            BigInteger round = BigInteger.ONE.shiftLeft(bits);
            dueFault("page " + round.add(BigInteger.valueOf(3)) + " 1 1", 5, NUMBER);
            dueFault("page 3 " + round.add(BigInteger.ONE) + " 1", 7, NUMBER);
            dueFault("page 3 1 " + round.add(BigInteger.ONE), 9, NUMBER);
            dueFault(HEAD + "rect " + round + " 0 0 0 0", 16, NUMBER);
            if (bits > 8) {
                dueFault(HEAD + "rect 0 " + round + " 0 0 0", 18, NUMBER);
                dueFault(HEAD + "rect 0 -" + round + " 0 0 0", 18, NUMBER);
                dueFault(HEAD + "rect 0 0 0 0 " + round, 24, NUMBER);
            }
        }
        dueTaken("page 0000000000000000000000000000003 01 001", 0);
        dueTaken(HEAD + "rect 1 -0000000000000000000000001000 0 00000000000000000000000001000 0", 1);
        dueTaken(HEAD + "rect 1 -0 -00 0 -0", 1);
    }

    /** Each of the 256 bytes behind a WORD, behind a NUMBER, between two NUMBERS and behind a -. */
    private static void everyByte() {
        about("bytes that can stand");
        for (int b = 0; b < 256; b++) {
            char sign = (char) b;
            boolean digit = sign >= '0' && sign <= '9';
            boolean letter = sign >= 'a' && sign <= 'z';
            String afterWord = "page" + sign + "3 1 1";
            String afterNumber = "page 3 1 1" + sign;
            if (sign == ' ' || sign == '0') {
                dueTaken(afterWord, 0);
            } else if (digit) {
                dueFault(afterWord, 4, NUMBER);
            } else {
                dueFault(afterWord, letter ? 0 : 4, BYTE);
            }
            if (sign == ' ') {
                dueTaken(afterNumber, 0);
            } else if (digit) {
                dueFault(afterNumber, 9, NUMBER);
            } else {
                dueFault(afterNumber, sign == ';' ? 11 : 10, BYTE);
            }
            dueFault(sign + "page 3 1", sign == ' ' ? 9 : 0, BYTE);
            betweenNumbers(sign, digit);
        }
    }

    private static void betweenNumbers(char sign, boolean digit) {
        String between = HEAD + "rect 1 0" + sign + "0 5 5";
        String afterMinus = HEAD + "rect 1 -" + sign;
        if (sign == ' ' || sign == '-') {
            dueTaken(between, 1);
        } else if (sign == '0') {
            dueFault(between, 25, BYTE);
        } else if (digit) {
            // One number of two digits is x1, the 5s are y1 and x2.
            dueFault(between, 24, NUMBER);
        } else {
            dueFault(between, 19, BYTE);
        }
        dueFault(afterMinus, digit ? 20 : 19, BYTE);
    }

    private static void wordsAndNumbers() {
        about("WORDS and NUMBERS, as far as they go on");
        dueFault("pagepage 3 1 1", 0, BYTE);
        dueFault("page page 3 1 1", 5, BYTE);
        dueFault("pag e 3 1 1", 0, BYTE);
        dueFault("rect 3 1 1", 0, BYTE);
        dueFault("3 1 1", 0, BYTE);
        dueFault("page 3 1 1;page 1 0 0 0 0", 11, BYTE);
        dueFault(HEAD + "rectrect 1 0 0 0 0", 11, BYTE);
        dueFault(HEAD + "RECT 1 0 0 0 0", 11, BYTE);
        dueFault(HEAD + "recT 1 0 0 0 0", 11, BYTE);
        dueFault(HEAD + "1 0 0 0 0", 11, BYTE);
        dueFault(HEAD + "rect 1 0 0 0 0rect", 25, BYTE);
        dueFault(HEAD + "rect 1 0 0 0 0 rect", 26, BYTE);
        dueFault(HEAD + "rect 1 0 0 0 0-0", 25, BYTE);
        dueFault(HEAD + "rect 1 0 0 0 0;;", 26, BYTE);
        dueFault(HEAD + "rect 1 0 0;0 0", 21, BYTE);
        dueFault("page 3 1;", 8, BYTE);
        dueFault("page 3 1 -1", 9, BYTE);
        dueFault("page 3 -1 1", 7, BYTE);
        dueFault("page -3 1 1", 5, BYTE);
        dueFault("page +3 1 1", 5, BYTE);
        dueFault(HEAD + "rect 1 +1 0 0 0", 18, BYTE);
        dueFault(HEAD + "rect 1 - 1 0 0 0", 19, BYTE);
        dueFault(HEAD + "rect 1 1- 0 0 0", 20, BYTE);
        dueFault(HEAD + "rect 1 1.0 0 0 0", 19, BYTE);
        dueTaken("page3 1 1;rect1-3-4-1-2", 1);
        dueTaken("   page   3   1   1   ;   rect   1   0   0   0   0   ", 1);
        // A NUMBER that is not as told begins ahead of the byte behind it.
        dueFault("page 9x", 5, NUMBER);
        dueFault("page 3 2x", 7, NUMBER);
        dueFault(HEAD + "rect 1 1001x", 18, NUMBER);
        dueFault("page 9 9 9", 5, NUMBER);
        dueFault("page 3 9 9", 7, NUMBER);
    }

    /** The text ends at every place in turn. */
    private static void everyEnd() {
        about("the text ends");
        String text = "page 3 1 1 ; rect 7 -5 0 5 5;rect 8 1 1 2 2 ";
        for (int n = 0; n <= text.length(); n++) {
            String head = text.substring(0, n);
            // What stood behind the end of the tape once is no part of the text.
            RectFile cut = new RectFile();
            feedText(cut, text);
            due("end", cut.end(n), n);
            due("file of \"" + head + "\", cut from more", cut.file(), tell(new RectFile(), head));
            if (n == 10 || n == 11) {
                dueTaken(head, 0);
            } else if (n == 28) {
                dueTaken(head, 1);
            } else if (n >= 43) {
                dueTaken(head, 2);
            } else if (n >= 1 && n <= 3) {
                dueFault(head, 0, BYTE);
            } else if (n >= 14 && n <= 16) {
                dueFault(head, 13, BYTE);
            } else if (n >= 30 && n <= 32) {
                dueFault(head, 29, BYTE);
            } else {
                dueFault(head, n, BYTE);
            }
        }
        dueFault("page   ", 7, BYTE);
        dueFault(HEAD + "   ", 14, BYTE);
        dueFault(HEAD + "rect 1 0 0 0   ", 26, BYTE);
    }

    /** A file's text is what stands on the tape, and no byte that stood behind it once. */
    private static void tapeEnds() {
        about("end and file");
        RectFile f = new RectFile();
        feedText(f, HEAD + "rect 1 0 0 0 0");
        due("end", f.end(10), 10);
        due("file", f.file(), 0);
        due("bytes", f.count(10), 0);
        due("nothing is told twice", f.file(), -2 - BYTE);
        feedText(f, "page 3 1 1;");
        due("fault", f.file(), -2 - (8 * 11 + BYTE));
        due("bytes", f.count(10), 0);
        feedText(f, "page 4 2 ");
        feedText(f, "3");
        due("fed in two", f.file(), 0);
        due("p", f.count(5), 3);
    }

    public static void main(String[] args) {
        numbersOfPages();
        ids();
        sides();
        lowAndHigh();
        idsOnce();
        twentyRects();
        fullTape();
        longNumbers();
        everyByte();
        wordsAndNumbers();
        everyEnd();
        tapeEnds();
        finish("text edges");
    }
}
