/** Boundary cases of the text of a COMPLEX: tokens, lines, and each FAULT (Terms I, promises 3, 4, 5). */
public final class BoundsTextTest {
    private static final Bounds B = new Bounds();
    private static final String HEAD = "complex points 4 size 2";
    private static final String TWELVE = "complex points 7 size 2;facet ab;facet ac;facet ad;facet ae;facet af;facet ag"
        + ";facet bc;facet bd;facet be;facet bf;facet bg;facet cd";
    /** What stands on THE TAPE behind the first n bytes must mean nothing. */
    private static final char[] BEHIND = {' ', 'a', '2', ';', '#'};

    public static void main(String[] args) throws Exception {
        B.runAll(BoundsTextTest.class);
    }

    /** A text with a FAULT: which, where, and that the COMPLEX stays and THE TAPE goes. */
    private static void faulty(String text, int fault, int place) {
        for (char behind : BEHIND) {
            ShellPeel x = Samples.moved();
            Checks.feed(x, text, behind);
            B.due("'" + text + "': complex()", x.complex(text.length()), Bounds.NONE);
            B.due("'" + text + "': trouble()", x.trouble(), 4);
            B.due("'" + text + "': fault()", x.fault(), fault);
            B.due("'" + text + "': where()", x.where(), place);
            B.due("'" + text + "': size()", x.size(), 0);
            B.dueRows("'" + text + "'", x, "ab cd bc", "1 2 0");
        }
    }

    private static ShellPeel told(String text, String facets) {
        ShellPeel x = null;
        for (char behind : BEHIND) {
            x = Samples.moved();
            Checks.feed(x, text, behind);
            B.due("'" + text + "': complex()", x.complex(text.length()), facets.split(" ").length);
            B.due("'" + text + "': trouble()", x.trouble(), 0);
            B.due("'" + text + "': fault()", x.fault(), 0);
            B.due("'" + text + "': where()", x.where(), Bounds.NONE);
            B.due("'" + text + "': size()", x.size(), 0);
            B.checks.due("'" + text + "': the facets", Bounds.facets(x), facets);
        }
        return x;
    }

    // Terms I: "blanks, 32, part TOKENS and mean nothing else;"
    static void blanksPartTokens() {
        told("   complex   points   4   size   2   ;   facet   ab   ;   facet   cd   ", "ab cd");
        told("complex points4size2;facet ab", "ab");
        told("complex points 4size 2 ;facet ab;facet cd", "ab cd");
        faulty("comp lex points 4 size 2;facet ab", 1, 0);
        faulty("complexpoints 4 size 2;facet ab", 1, 0);
        faulty("complex points 4 size 2;facetab", 1, 24);
        faulty(HEAD + ";facet a b", 3, 30);
        faulty("complex points 0 4 size 2", 2, 15);
        faulty("complex points 1 4 size 2", 1, 17);
        faulty("complex points 4 size 1 2", 1, 24);
    }

    // Terms I: "blanks, 32, part TOKENS and mean nothing else;"
    static void noOtherByteIsABlank() {
        for (int sign : new int[] {0, 9, 10, 11, 13, 31, 33, 95, 127, 128, 160, 255}) {
            faulty("complex" + (char) sign + "points 4 size 2;facet ab", 1, 7);
            faulty((char) sign + HEAD, 1, 0);
            faulty(HEAD + ";facet ab" + (char) sign, 1, 32);
        }
    }

    // Terms I: "TOKENS: WORDS of 1 to 7 small letters that stand together,"
    static void wordsOfOneToSevenLetters() {
        told("complex points 7 size 1;facet g", "g");
        faulty("complex points 7 size 5;facet abcdefg", 3, 30);
        faulty("complex points 7 size 5;facet abcdefga", 1, 30);
        faulty("complex points 7 size 5;facet abcdefgabcdefg", 1, 30);
        faulty("complexx points 4 size 2", 1, 0);
        faulty("complex pointssize 4 size 2", 1, 8);
        faulty("c", 1, 0);
    }

    // Terms I: "TOKENS: WORDS of 1 to 7 small letters that stand together,"
    static void lettersAreSmallOnes() {
        faulty("Complex points 4 size 2", 1, 0);
        faulty(HEAD + ";facet `a", 1, 30);
        faulty(HEAD + ";facet {a", 1, 30);
        faulty(HEAD + ";facet ab`", 1, 32);
        faulty(HEAD + ";facet ab{", 1, 32);
        faulty(HEAD + ";facet AB", 1, 30);
        faulty(HEAD + ";facet abZ", 1, 32);
        faulty(HEAD + ";facet az", 3, 30);
        faulty(HEAD + ";facet " + (char) ('a' + 128) + "b", 1, 30);
    }

    // Terms I: "WHOLES of 1 or 2 digits that do,"
    static void wholesOfOneOrTwoDigits() {
        told("complex points 04 size 02;facet ab", "ab");
        told("complex points 07 size 5;facet cdefg", "cdefg");
        faulty("complex points 004 size 2", 1, 15);
        faulty("complex points 4 size 002", 1, 22);
        faulty("complex points 99999999999 size 2", 1, 15);
        faulty("complex points -1 size 1", 1, 15);
        faulty("complex points +4 size 1", 1, 15);
        faulty("complex points /4 size 1", 1, 15);
        faulty("complex points :4 size 1", 1, 15);
        faulty("complex points 4: size 1", 1, 16);
        faulty("complex points 4/ size 1", 1, 16);
        faulty("complex points 4.0 size 1", 1, 16);
    }

    // Terms I: "single ones of ;): LINE {; LINE}. LINE, one of:"
    static void semicolonsStandBetweenLines() {
        told(HEAD + ";facet ab;facet cd", "ab cd");
        faulty(";", 1, 0);
        faulty(";" + HEAD + ";facet ab", 1, 0);
        faulty(HEAD + ";;facet ab", 1, 24);
        faulty(HEAD + "; ;facet ab", 1, 25);
        faulty(HEAD + ";facet ab;", 1, 33);
        faulty(HEAD + ";facet ab; ", 1, 34);
        faulty(HEAD + ";facet ab;;", 1, 33);
        faulty(HEAD + " facet ab", 1, 24);
        faulty(HEAD + ";facet ab facet cd", 1, 33);
        faulty(HEAD + ":facet ab", 1, 23);
        faulty(HEAD + "<facet ab", 1, 23);
    }

    // Terms I: "complex points WHOLE size WHOLE (POINTS, 1 .. 7: a, b, ..; SIZE, 1 .. 5, no more than POINTS), ahead of all others"
    // Terms I: "2 a WHOLE out of bounds; at it."
    static void pointsFromOneToSeven() {
        faulty("complex points 0 size 1;facet a", 2, 15);
        faulty("complex points 00 size 1;facet a", 2, 15);
        told("complex points 1 size 1;facet a", "a");
        told("complex points 7 size 1;facet g;facet a", "g a");
        faulty("complex points 8 size 1;facet a", 2, 15);
        faulty("complex points 08 size 1;facet a", 2, 15);
        faulty("complex points 10 size 1;facet a", 2, 15);
        faulty("complex points 17 size 1;facet a", 2, 15);
        faulty("complex points 99 size 1;facet a", 2, 15);
        faulty("complex points   8", 2, 17);
    }

    // Terms I: "complex points WHOLE size WHOLE (POINTS, 1 .. 7: a, b, ..; SIZE, 1 .. 5, no more than POINTS), ahead of all others"
    // Terms I: "2 a WHOLE out of bounds; at it."
    static void sizeFromOneToFiveAndNoMoreThanPoints() {
        faulty("complex points 7 size 0;facet a", 2, 22);
        told("complex points 7 size 5;facet abcde", "abcde");
        faulty("complex points 7 size 6;facet abcdef", 2, 22);
        faulty("complex points 6 size 6;facet abcdef", 2, 22);
        faulty("complex points 7 size 15;facet abcde", 2, 22);
        faulty("complex points 7 size 10;facet a", 2, 22);
        for (int points = 1; points <= 5; points++) {
            String word = "abcde".substring(0, points);
            told("complex points " + points + " size " + points + ";facet " + word, word);
            faulty("complex points " + points + " size " + (points + 1) + ";facet " + word, 2, 22);
        }
        faulty("complex points 4 size  9", 2, 23);
    }

    // Terms I: "complex points WHOLE size WHOLE (POINTS, 1 .. 7: a, b, ..; SIZE, 1 .. 5, no more than POINTS), ahead of all others"
    static void pointsAreTheFirstLetters() {
        for (int points = 1; points <= 7; points++) {
            String last = String.valueOf((char) ('a' + points - 1));
            String next = String.valueOf((char) ('a' + points));
            ShellPeel x = told("complex points " + points + " size 1;facet " + last, last);
            B.due("points " + points + ": the last one's bit", x.facet(0), 1 << points - 1);
            faulty("complex points " + points + " size 1;facet " + next, 3, 30);
        }
    }

    // Terms I: "facet WORD (a FACET: SIZE unlike POINTS; numbered from 0, each once, up to 12)"
    static void facetsAreNumberedAsTheyCome() {
        ShellPeel x = told(HEAD + ";facet dc;facet ba;facet cb", "cd ab bc");
        B.due("facet(0)", x.facet(0), 12);
        B.due("facet(2)", x.facet(2), 6);
        B.checks.due("the order", Bounds.order(x), "0 1 2");
        told(TWELVE, "ab ac ad ae af ag bc bd be bf bg cd");
    }

    // Terms I: "FAULTS, the first that is met from the left, of one place the least number:"
    static void theFirstFromTheLeft() {
        faulty("complex points 8 size 9;facet #", 2, 15);
        faulty("complex points 4 size 9;#", 2, 22);
        faulty(HEAD + ";facet ae;facet ae;complex", 3, 30);
        faulty(HEAD + ";facet ab;facet ab;facet #", 4, 39);
        faulty(HEAD + ";facet ab #;facet ab", 1, 33);
        faulty("facet abcdefgh", 6, 0);
        faulty("facet #", 6, 0);
        faulty(TWELVE + ";facet #", 5, TWELVE.length() + 1);
        faulty(HEAD + ";complex #", 4, 24);
    }

    // Terms I: "FAULTS, the first that is met from the left, of one place the least number:"
    static void ofOnePlaceTheLeast() {
        // An end without a facet where a line is due, a whole out of bounds where none is due, too long a word that is odd, too.
        faulty("", 1, 0);
        faulty(HEAD + ";", 1, 24);
        faulty("complex 99", 1, 8);
        faulty("complex points 4 size 2 99", 1, 24);
        faulty(HEAD + ";facet 99", 1, 30);
        faulty(HEAD + ";facet zzzzzzzz", 1, 30);
        faulty("complex points 999 size 2", 1, 15);
    }

    // Terms I: "1 FORM: the first byte that begins no TOKEN, or TOKEN with which no COMPLEX goes on (the end: its place)."
    static void formAtATokenThatDoesNotGoOn() {
        faulty("points 4 size 2", 1, 0);
        faulty("7", 1, 0);
        faulty("complex complex", 1, 8);
        faulty("complex size 2 points 4", 1, 8);
        faulty("complex facet ab", 1, 8);
        faulty("complex points size 2", 1, 15);
        faulty("complex points a size 2", 1, 15);
        faulty("complex points ;", 1, 15);
        faulty("complex points 4;", 1, 16);
        faulty("complex points 4 facet ab", 1, 17);
        faulty("complex points 4 size size", 1, 22);
        faulty("complex points 4 size ;", 1, 22);
        faulty(HEAD + " 2", 1, 24);
        faulty(HEAD + ";points", 1, 24);
        faulty(HEAD + ";2", 1, 24);
        faulty(HEAD + ";facet 2", 1, 30);
        faulty(HEAD + ";facet;", 1, 29);
        faulty(HEAD + ";facet ab cd", 1, 33);
        faulty(HEAD + ";facet ab 2", 1, 33);
        faulty(HEAD + ";facets ab", 1, 24);
        faulty(HEAD + ";face ab", 1, 24);
        // Words that differ from those that are due by the first or the last letter.
        faulty("domplex points 4 size 2;facet ab", 1, 0);
        faulty("compley points 4 size 2;facet ab", 1, 0);
        faulty("complex qoints 4 size 2;facet ab", 1, 8);
        faulty("complex pointt 4 size 2;facet ab", 1, 8);
        faulty("complex points 4 tize 2;facet ab", 1, 17);
        faulty("complex points 4 sizf 2;facet ab", 1, 17);
        faulty(HEAD + ";gacet ab", 1, 24);
        faulty(HEAD + ";faceu ab", 1, 24);
    }

    // Terms I: "1 FORM: the first byte that begins no TOKEN, or TOKEN with which no COMPLEX goes on (the end: its place)."
    static void formAtTheEnd() {
        faulty("", 1, 0);
        faulty(" ", 1, 1);
        faulty("complex", 1, 7);
        faulty("complex ", 1, 8);
        faulty("complex points", 1, 14);
        faulty("complex points 4", 1, 16);
        faulty("complex points 4 size", 1, 21);
        faulty("complex points 4 size   ", 1, 24);
        faulty(HEAD + ";", 1, 24);
        faulty(HEAD + ";facet", 1, 29);
        faulty(HEAD + ";facet  ", 1, 31);
        faulty(HEAD + ";facet ab;", 1, 33);
        faulty(HEAD + ";facet ab;facet", 1, 38);
    }

    // Terms I: "3 ODD: a WORD of a FACET with another letter than a POINT, one twice, more or fewer than SIZE; at it."
    static void oddWords() {
        faulty(HEAD + ";facet ae", 3, 30);
        faulty(HEAD + ";facet ea", 3, 30);
        faulty(HEAD + ";facet az", 3, 30);
        faulty(HEAD + ";facet aa", 3, 30);
        faulty(HEAD + ";facet aba", 3, 30);
        faulty(HEAD + ";facet abe", 3, 30);
        faulty(HEAD + ";facet a", 3, 30);
        faulty(HEAD + ";facet abc", 3, 30);
        faulty(HEAD + ";facet facet", 3, 30);
        faulty(HEAD + ";facet complex", 3, 30);
        faulty(HEAD + ";facet   abcd", 3, 32);
        faulty(HEAD + ";facet ab;facet bb", 3, 39);
        faulty("complex points 7 size 5;facet abcd", 3, 30);
        faulty("complex points 7 size 5;facet abcdef", 3, 30);
        faulty("complex points 7 size 5;facet abcdd", 3, 30);
        faulty("complex points 1 size 1;facet aa", 3, 30);
        faulty("complex points 1 size 1;facet b", 3, 30);
        // Letters whose bits would wrap round to points.
        faulty("complex points 7 size 1;facet h", 3, 30);
        faulty("complex points 2 size 2;facet az", 3, 30);
    }

    // Terms I: "4 AGAIN: a FACET told again, at its WORD; a second complex, at that WORD."
    static void toldAgain() {
        faulty(HEAD + ";facet ab;facet ab", 4, 39);
        faulty(HEAD + ";facet ab;facet ba", 4, 39);
        faulty(HEAD + ";facet ab;facet cd;facet   dc", 4, 50);
        faulty(HEAD + ";complex", 4, 24);
        faulty(HEAD + ";  complex points 4 size 2", 4, 26);
        faulty(HEAD + ";facet ab;complex points 9 size 2", 4, 33);
        faulty(TWELVE + ";complex", 4, TWELVE.length() + 1);
        faulty("complex points 1 size 1;complex points 2 size 1;facet a", 4, 24);
        faulty("complex points 1 size 1;facet a;facet a", 4, 38);
        String eleven = TWELVE.substring(0, TWELVE.length() - 2);
        faulty(eleven + "ba", 4, eleven.length());
        faulty(eleven + "gb", 4, eleven.length());
    }

    // Terms I: "5 MANY: a 13th FACET, at the WORD facet."
    static void aThirteenthFacet() {
        int end = TWELVE.length();
        faulty(TWELVE + ";facet ce", 5, end + 1);
        faulty(TWELVE + ";  facet ce", 5, end + 3);
        faulty(TWELVE + ";facet", 5, end + 1);
        faulty(TWELVE + ";facet ab", 5, end + 1);
        faulty(TWELVE + ";facet abc", 5, end + 1);
        faulty(TWELVE + ";face ce", 1, end + 1);
        faulty(TWELVE + ";", 1, end + 1);
    }

    // Terms I: "6 LACKS: any LINE ahead of the complex, at its WORD; at the end: no FACET."
    static void lacksAComplexOrAFacet() {
        faulty("facet ab", 6, 0);
        faulty("   facet ab;" + HEAD, 6, 3);
        faulty("facet", 6, 0);
        faulty("facet;", 6, 0);
        faulty(HEAD, 6, 23);
        faulty(HEAD + "   ", 6, 26);
        faulty("complex points 1 size 1", 6, 23);
    }

    // Terms I: "THE TEXT of a COMPLEX (THE TAPE has 200 bytes;"
    static void aTextAsLongAsTheTape() {
        StringBuilder text = new StringBuilder("complex points 7 size 5");
        String[] words = "abcde abcdf abcdg abcef abceg abcfg abdef abdeg abdfg abefg acdef acdeg".split(" ");
        for (String word : words) {
            text.append(";facet ").append(word);
        }
        while (text.length() < 200) {
            text.insert(0, ' ');
        }
        told(text.toString(), String.join(" ", words));
        String again = text.substring(0, 195) + "abcde";
        faulty(again, 4, 195);
        faulty(text.substring(0, 199), 3, 195);
        faulty(text.substring(0, 199) + "h", 3, 195);
        faulty(text.substring(0, 199) + ";", 3, 195);
        faulty(text.substring(1) + ";", 1, 200);
        faulty(text.substring(1) + "#", 1, 199);
        faulty(" ".repeat(200), 1, 200);
        faulty("a".repeat(200), 1, 0);
        faulty("1".repeat(200), 1, 0);
        faulty(";".repeat(200), 1, 0);
    }
}
