/** Edges, sentence by sentence: Terms I, and promises 1 to 5. */
public final class EdgesOfTextsTest {
    private static final Check C = new Check("EdgesOfTextsTest");

    public static void main(String[] args) {
        boundsOfNumbers();
        statesAndSorts();
        onceOnly();
        tokens();
        longestTokens();
        wordsInFull();
        faultsByPlace();
        faultsOfOnePlace();
        theEndsPlace();
        linesInFull();
        sums();
        aNewObject();
        theLastCalls();
        feeds();
        ends();
        lands();
        landsWithAFault();
        faults();
        C.close();
    }

    private static void edge(String sentence, String lines) {
        Story.tell(C, sentence, lines);
    }

    /** A text, as it is taken, and then nothing left on the TAPE. */
    private static void taken(String sentence, String text, int lines) {
        edge(sentence, "\"" + text + "\" = " + lines + "\nfault(0) = 0\nfault(1) = NONE\ncount(3) = " + lines + "\ncount(6) = 0");
    }

    private static void refused(String sentence, String text, int fault, int place) {
        edge(sentence, "\"" + text + "\" = -4\nfault(0) = " + fault + "\nfault(1) = " + place + "\ncount(3) = 0");
    }

    // ---------------------------------------------------------------- Terms I: numbers

    private static void bounds(String sentence, String before, int low, int high, String after) {
        int place = before.length();
        taken(sentence, before + low + after, 1);
        taken(sentence, before + high + after, 1);
        taken(sentence + ", zeros ahead", before + "0000000000000000000000" + high + after, 1);
        if (low > 0) {
            refused(sentence + ", below", before + (low - 1) + after, 2, place);
        }
        refused(sentence + ", above", before + (high + 1) + after, 2, place);
        // as Java's numbers wrap around, these would be low or high again
        refused(sentence + ", wrapped", before + (high + (1L << 8)) + after, 2, place);
        refused(sentence + ", wrapped", before + (high + (1L << 16)) + after, 2, place);
        refused(sentence + ", wrapped", before + (low + (1L << 32)) + after, 2, place);
        refused(sentence + ", wrapped", before + "184467440737095516" + (16 + low) + after, 2, place);
        refused(sentence + ", far above", before + "9".repeat(60) + after, 2, place);
        refused(sentence + ", no number", before + "x" + after, 1, place);
        refused(sentence + ", none at all", before + after, 1, place + (after.startsWith(" ") ? 1 : 0));
    }

    private static void boundsOfNumbers() {
        bounds("I. enter 4 .. 9", "law enter ", 4, 9, " leave 15;");
        bounds("I. leave 10 .. 20", "law enter 6 leave ", 10, 20, ";");
        bounds("I. share 1 .. 99", "sort share ", 1, 99, " gift 2 wish 3;");
        bounds("I. gift 0 .. 99", "sort share 1 gift ", 0, 99, " wish 3;");
        bounds("I. wish 0 .. 240", "sort share 1 gift 2 wish ", 0, 240, ";");
        bounds("I. wish 0 .. 240", "sort share 1 gift 2 wish ", 0, 240, " spread 3;");
        bounds("I. spread 0 .. 60", "sort share 1 gift 2 wish 3 spread ", 0, 60, ";");
        bounds("I. MONTH 1 .. 12", "leak ", 1, 12, " by 3;");
        bounds("I. by 0 .. 99", "leak 3 by ", 0, 99, ";");
        bounds("I. noise 0 .. 999", "noise ", 0, 999, ";");
        bounds("I. PART: N (0 .. 999)", "wage ", 0, 999, ";");
        bounds("I. PART: N (0 .. 999)", "wage school plus ", 0, 999, ";");
        bounds("I. PART: N (0 .. 999)", "wage school over ", 0, 999, " minus 1;");
    }

    // ---------------------------------------------------------------- Terms I: how many

    private static void statesAndSorts() {
        edge("I. STATES 0 .. 5 are the laws as they stand", """
            "law enter 4 leave 10;law enter 5 leave 11;law enter 6 leave 12;law enter 7 leave 13;law enter 8 leave 14;law enter 9 leave 15;" = 6
            count(0) = 6
            old(0, 9) = 48
            old(1, 9) = 60
            old(4, 9) = 96
            old(5, 9) = 108
            ! old(6, 9) = -2
            ! old(-1, 9) = -2
            forced(0, 9) = 72
            forced(5, 9) = 72
            sheet(5, 1, 1, 1) = 0
            sheet(6, 1, 1, 1) = -2
            """);
        String law = "law enter 6 leave 15;";
        taken("I. a 6th law", law.repeat(6), 6);
        refused("I. 3 a 7th law, at its first TOKEN", law.repeat(7), 3, 126);
        refused("I. 3 a 7th law, at its first TOKEN", law.repeat(6) + "law", 3, 126);
        refused("I. 3 a 7th law, at its first TOKEN", law.repeat(6) + " %0a law enter 99", 3, 129);
        refused("I. 3 a 7th law, at its first TOKEN", law.repeat(3) + "noise 1;" + law.repeat(4), 3, 134);
        edge("I. SORTS 0 .. 7 likewise", """
            "law enter 4 leave 10;sort share 1 gift 10 wish 0;sort share 1 gift 11 wish 0;sort share 1 gift 12 wish 0;sort share 1 gift 13 wish 0;"
            "sort share 1 gift 14 wish 0;sort share 1 gift 15 wish 0;sort share 1 gift 16 wish 0;sort share 1 gift 17 wish 0;" = 9
            count(1) = 8
            # the third draws of the seeds 5, 1, 0, 2 are 10616, 10113, 9988, 10239
            draw(5, 1) = 1
            told(0, 4) = 10
            draw(1, 1) = 1
            told(0, 4) = 11
            draw(0, 1) = 1
            told(0, 4) = 14
            draw(2, 1) = 1
            told(0, 4) = 17
            """);
        String sort = "sort share 1 gift 2 wish 3;";
        taken("I. an 8th sort", sort.repeat(8), 8);
        refused("I. 3 a 9th sort, at its first TOKEN", sort.repeat(9), 3, 216);
        refused("I. 3 a 9th sort, at its first TOKEN", sort.repeat(8) + "sort", 3, 216);
        refused("I. 3 a 9th sort, at its first TOKEN", sort.repeat(8) + "  sort share 0", 3, 218);
        taken("I. six laws and eight sorts", law.repeat(6) + sort.repeat(8), 14);
    }

    private static void onceOnly() {
        StringBuilder twelve = new StringBuilder();
        for (int month = 12; month >= 1; month--) {
            twelve.append("leak ").append(month).append(" by ").append(month % 2).append(";");
        }
        int bytes = twelve.length();
        taken("I. leak once for each MONTH", twelve.toString(), 12);
        refused("I. 2 a MONTH with a leak already, at it", twelve + "leak 1 by 1;", 2, bytes + 5);
        refused("I. 2 a MONTH with a leak already, at it", twelve + "leak 12 by 1;", 2, bytes + 5);
        refused("I. 2 a MONTH with a leak already, by 0", "leak 7 by 0;leak 7 by 0;", 2, 17);
        refused("I. 2 a MONTH with a leak already, by another number of digits", "leak 7 by 0;leak 07 by 0;", 2, 17);
        taken("I. leak once for each MONTH", "leak 1 by 5;leak 11 by 5;", 2);
        taken("I. wage once", "wage 1;", 1);
        refused("I. 2 wage told already, at the word", "wage 1; wage 1;", 2, 8);
        refused("I. 2 wage told already, at the word", "wage 0;law enter 6 leave 15;wage", 2, 28);
        taken("I. noise once", "noise 1;", 1);
        refused("I. 2 noise told already, at the word", "noise 0; noise 1;", 2, 9);
        refused("I. 2 noise told already, at the word", "noise 0;wage 1;noise", 2, 15);
        edge("I. once in a text, not in an object", """
            "wage 1;noise 1;leak 1 by 1;" = 3
            "wage 1;noise 1;leak 1 by 1;" = 3
            "wage 1;noise 1;leak 1 by 1;x" = -4
            end(0) = 0
            "wage 1;noise 1;leak 1 by 1;" = 3
            """);
    }

    // ---------------------------------------------------------------- Terms I: TOKENS

    private static void tokens() {
        taken("I. blanks (32, 10) aside", "%20%0alaw%0aenter%206 %0a%0a leave%0a15%20;%0a", 1);
        String[] noBlanks = {"%00", "%09", "%0b", "%0d", "%1f", "%21", "%2c", "%7f", "%80", "%8a", "%a0", "%ff"};
        for (String one : noBlanks) {
            refused("I. 1 a TOKEN that is none: " + one, one + "law enter 6 leave 15;", 1, 0);
            refused("I. 1 a TOKEN that is none: " + one, "law" + one + "enter 6 leave 15;", 1, 3);
            refused("I. 1 a TOKEN that is none: " + one, "noise 6" + one + ";", 1, 7);
            refused("I. 1 a TOKEN that is none: " + one, "noise 6;" + one, 1, 8);
        }
        // the signs just beside a .. z, A .. Z, the digits and ;
        String[] beside = {"%60", "%7b", "A", "Z", "%40", "%5b", "%2f", "%3a", "%3c", "%e1", "%fa", "%b0", "%b9", "%bb"};
        for (String one : beside) {
            refused("I. words (a .. z): " + one, one, 1, 0);
            refused("I. words (a .. z): " + one, "law enter 6 leave 15;" + one + "aw", 1, 21);
            refused("I. numbers (digits): " + one, "noise " + one + ";", 1, 6);
            refused("I. numbers (digits): " + one, "noise 1" + one + "1;", 1, 7);
            refused("I. the sign ;: " + one, "noise 1 " + one, 1, 8);
        }
        taken("I. numbers (digits), 0 and 9", "noise 90;wage 09;", 2);
        edge("I. numbers (digits)", "\"noise 90;wage 09;law enter 6 leave 15;\" = 3\ncount(5) = 90\nwage(0, 0, 1, 0) = 9");
    }

    private static void longestTokens() {
        taken("I. TOKENS, the longest", "law enter6leave15;sort share1gift2wish3spread4;leak1by2;wage1plus2times school;noise0;", 5);
        refused("I. TOKENS, the longest", "lawenter 6 leave 15;", 1, 0);
        refused("I. TOKENS, the longest", "lawz enter 6 leave 15;", 1, 0);
        refused("I. TOKENS, the longest", "lawa enter 6 leave 15;", 1, 0);
        refused("I. TOKENS, the longest", "law enter 6 leavex 15;", 1, 12);
        refused("I. TOKENS, the longest", "law ente r 6 leave 15;", 1, 4);
        refused("I. TOKENS, the longest", "noise 1 2;", 1, 8);
        refused("I. TOKENS, the longest", "noise 1%0a2;", 1, 8);
        refused("I. TOKENS, the longest", "wage schoolplus 2;", 1, 5);
        refused("I. TOKENS, the longest", "wage 1 plusgift;", 1, 7);
        refused("I. TOKENS, the longest", "noise 1;;", 1, 8);
        refused("I. TOKENS, the longest", ";", 1, 0);
    }

    /** Each word of a LINE in turn with another letter at its beginning, in it, at its end, or one more or less. */
    private static void wordsInFull() {
        String[] lines = {"law enter 6 leave 15;", "sort share 1 gift 2 wish 3 spread 4;", "leak 1 by 2;", "noise 1;",
            "wage school plus gift minus month times old over forced;"};
        for (String line : lines) {
            int place = 0;
            for (String word : line.replace(";", "").split(" ")) {
                if (Character.isLetter(word.charAt(0))) {
                    int last = word.length() - 1;
                    String[] others = {"x" + word.substring(1), word.substring(0, last) + "x", word + "x", word.substring(0, last), word.substring(1),
                        word.substring(0, 1) + "x" + word.substring(Math.min(2, last + 1))};
                    for (String other : others) {
                        refused("I. 1 a TOKEN that can't stand there: " + other, line.substring(0, place) + other + line.substring(place + word.length()), 1, place);
                    }
                }
                place += word.length() + 1;
            }
        }
    }

    // ---------------------------------------------------------------- Terms I: FAULTS

    private static void faultsByPlace() {
        refused("I. FAULTS, the first by its place", "noise 1000;law x", 2, 6);
        refused("I. FAULTS, the first by its place", "law x;noise 1000;", 1, 4);
        refused("I. FAULTS, the first by its place", "law enter 99 leave 99;", 2, 10);
        refused("I. FAULTS, the first by its place", "law enter 9 leave 99,", 2, 18);
        refused("I. FAULTS, the first by its place", "law enter 6 leave 15;".repeat(6) + "noise 1000;law", 2, 132);
        refused("I. FAULTS, the first by its place", "law enter 6 leave 15;".repeat(6) + "law enter 99", 3, 126);
        refused("I. FAULTS, the first by its place", "wage 1;wage 1000;", 2, 7);
        refused("I. FAULTS, the first by its place", "leak 3 by 1;leak 3 by 100;", 2, 17);
        refused("I. FAULTS, the first by its place", "leak 3 by 1;leak 4 by 100;leak 3", 2, 22);
        refused("I. a TOKEN's first byte", "noise    12345;", 2, 9);
        refused("I. a TOKEN's first byte", "%0a%0anoises 1;", 1, 2);
        refused("I. 1 a TOKEN that can't stand there", "6", 1, 0);
        refused("I. 1 a TOKEN that can't stand there", "enter 6", 1, 0);
        refused("I. 1 a TOKEN that can't stand there", "plus", 1, 0);
    }

    private static void faultsOfOnePlace() {
        refused("I. of one place the least: a number of no bounds at all", "law 99999", 1, 4);
        refused("I. of one place the least: noise told already", "noise 1;law noise", 1, 12);
        refused("I. of one place the least: wage told already", "wage 1;sort wage", 1, 12);
        refused("I. of one place the least: a 7th law", "law enter 6 leave 15;".repeat(6) + "sort law", 1, 131);
        refused("I. of one place the least: a 9th sort", "sort share 1 gift 2 wish 3;".repeat(8) + "law sort", 1, 220);
        refused("I. of one place the least: a MONTH with a leak", "leak 3 by 1;leak by 3", 1, 17);
        refused("I. of one place the least: a word in place of a MONTH", "leak 3 by 1;leak three by 3", 1, 17);
    }

    private static void theEndsPlace() {
        String[] cut = {"law", "law enter", "law enter 6", "law enter 6 leave", "law enter 6 leave 15", "sort", "sort share", "sort share 1",
            "sort share 1 gift", "sort share 1 gift 2", "sort share 1 gift 2 wish", "sort share 1 gift 2 wish 3", "sort share 1 gift 2 wish 3 spread",
            "sort share 1 gift 2 wish 3 spread 4", "leak", "leak 1", "leak 1 by", "leak 1 by 2", "wage", "wage 1", "wage 1 plus", "wage school times", "noise", "noise 1"};
        for (String text : cut) {
            refused("I. the end's place", text, 1, text.length());
            refused("I. the end's place, blanks ahead of it", text + " %0a ", 1, text.length() + 3);
        }
        refused("I. the end's place, of a full TAPE", " ".repeat(595) + "noise", 1, 600);
    }

    // ---------------------------------------------------------------- Terms I: LINES and SUMS

    private static void linesInFull() {
        edge("I. [spread N] (0 without)", """
            "law enter 4 leave 10;sort share 1 gift 2 wish 99;" = 2
            draw(16, 1) = 1
            told(0, 5) = 99
            "law enter 4 leave 10;sort share 1 gift 2 wish 99 spread 0;" = 2
            draw(16, 1) = 1
            told(0, 5) = 99
            # the fourth draw of the seed 16 is 14029
            "law enter 4 leave 10;sort share 1 gift 2 wish 99 spread 60;" = 2
            draw(16, 1) = 1
            told(0, 5) = 159
            """);
        refused("I. [spread N] once", "sort share 1 gift 2 wish 3 spread 4 spread 5;", 1, 36);
        refused("I. [spread N] behind wish", "sort share 1 gift 2 spread 4 wish 3;", 1, 20);
        refused("I. law enter N leave N ;", "law leave 15 enter 6;", 1, 4);
        refused("I. law enter N leave N ;", "law enter 6 leave 15 16;", 1, 21);
        refused("I. sort share N gift N wish N", "sort share 1 wish 3 gift 2;", 1, 13);
        refused("I. leak MONTH by N ;", "leak 1 by 2 3;", 1, 12);
        refused("I. leak MONTH by N ;", "leak by 2;", 1, 5);
        refused("I. noise N ;", "noise;", 1, 5);
        refused("I. noise N ;", "noise plus;", 1, 6);
    }

    private static void sums() {
        taken("I. SUM: TERM", "wage forced;", 1);
        refused("I. SUM: none", "wage;", 1, 4);
        refused("I. SUM: none", "wage ;", 1, 5);
        String[] joints = {"plus", "minus", "times", "over"};
        for (String joint : joints) {
            taken("I. PART " + joint + " PART", "wage 1 " + joint + " old;", 1);
            refused("I. " + joint + " without a PART behind", "wage 1 " + joint + ";", 1, 8 + joint.length() - 1);
            refused("I. " + joint + " without a PART ahead", "wage " + joint + " 1;", 1, 5);
            refused("I. " + joint + " twice", "wage 1 " + joint + " " + joint + " 1;", 1, 8 + joint.length());
        }
        String[] parts = {"school", "gift", "month", "old", "forced"};
        for (String part : parts) {
            taken("I. PART: " + part, "wage " + part + " times " + part + ";", 1);
            refused("I. PART: " + part + ", cut", "wage " + part.substring(1) + ";", 1, 5);
            refused("I. PART: " + part + ", and one more", "wage 1 " + part + ";", 1, 7);
        }
        refused("I. PART: no other word", "wage wish;", 1, 5);
        refused("I. PART: no other word", "wage noise;", 1, 5);
        edge("I. the longest SUM that a TAPE has room for", "\"wage1" + "plus1".repeat(118) + ";    \" = 1\ncount(4) = 119\ncount(3) = 1\n"
            + "keep(0) = 0\n\"law enter 6 leave 15;wage 5;\" = 2\ncount(4) = 1\nback(0) = 0\ncount(4) = 119\n");
        edge("I. a longer one is told beside a law: 115 PARTS", "\"law enter 6 leave 15;wage1" + "plus1".repeat(114) + ";  \" = 2\ncount(4) = 115\nwage(0, 0, 1, 0) = 115\n"
            + "wage(300, 999, 12, 0) = 115\n");
    }

    // ---------------------------------------------------------------- promises 1 to 3

    private static void aNewObject() {
        edge("1. No LAND, no SHEETS", """
            ! count(0) = 0
            count(1) = 0
            count(2) = 0
            count(3) = 0
            count(4) = 0
            count(5) = 0
            count(6) = 0
            count(7) = 0
            ! forced(0, 1) = -2
            ! old(0, 1) = -2
            ! wage(0, 0, 1, 0) = -2
            ! draw(0, 1) = -6
            ! told(0, 0) = NONE
            ! sheet(0, 1, 0, 0) = -2
            ! only(0) = -2
            ! month(0, 0) = 0
            ! groups() = 0
            ! plain() = NOTHING
            ! many() = NOTHING
            ! by(1) = NOTHING
            ! truth(false) = NOTHING
            ! strongest() = NONE
            ! judge(0) = -6
            ! back(0) = -6
            """);
        edge("1. each object is new", """
            "law enter 6 leave 15;sort share 1 gift 2 wish 3;" = 2
            draw(1, 5) = 5
            row(0, 0, 1) = 0
            keep(0) = 0
            "x" = -4
            new
            count(0) = 0
            count(2) = 0
            count(6) = 0
            count(7) = 0
            back(0) = -6
            fault(0) = 0
            """);
    }

    private static void theLastCalls() {
        edge("An object is used for at most 512 calls: the 512th is answered as the first", """
            # two feeds, end, land: four
            "law enter 6 leave 15;" = 1
            200 x sheet(0, 1, 5, 6)
            100 x draw(0, 1) = -6
            100 x land() = 0
            sheet(0, 1, 5, 6) = -2
            "law enter 6 leave 15;" = 1
            3 x keep(2) = 0
            97 x count(2) = 200
            only(0) = 200
            back(2) = 0
            count(2) = 200
            """);
    }

    private static void feeds() {
        edge("2. NONE, and none come, if it would have more than 600", """
            feed(1, 2, 3, 4, 5) = 20
            28 x feed(0, 0, 0, 0, 0)
            count(6) = 580
            feed(0, 0, 0, 0, 0) = 600
            ! feed(0, 0, 0, 0, 0) = NONE
            ! feed(MIN, MAX, -1, 1, 7) = NONE
            count(6) = 600
            end(599) = 599
            ! feed(0, 0, 0, 0, 0) = NONE
            end(581) = 581
            ! feed(0, 0, 0, 0, 0) = NONE
            count(6) = 581
            end(580) = 580
            feed(0, 0, 0, 0, 0) = 600
            count(6) = 600
            """);
        edge("2. a TAPE of 600 bytes is read to its end", "\"" + " ".repeat(591) + "noise 77;\" = 1\ncount(5) = 77");
        edge("2. four of each number, the highest first", """
            # "noise 77;", blanks; the bytes behind come from negative numbers too
            feed(1852795251, 1696610103, 991961120, 538976288, 168430090) = 20
            land() = 1
            count(5) = 77
            feed(-1, 0, 0, 0, 0) = 20
            land() = -4
            fault(1) = 0
            end(0) = 0
            # 20 20 20 ff: the last of four is the lowest
            feed(538976511, 0, 0, 0, 0) = 20
            land() = -4
            fault(1) = 3
            end(0) = 0
            # 20 20 ff 20, then 20 80 20 20, and 80 20 20 20 as a negative number
            feed(539033376, 0, 0, 0, 0) = 20
            land() = -4
            fault(1) = 2
            end(0) = 0
            feed(538976288, 545267744, 0, 0, 0) = 20
            land() = -4
            fault(1) = 5
            end(0) = 0
            feed(538976288, 538976288, -2145378272, 0, 0) = 20
            land() = -4
            fault(1) = 8
            """);
        edge("2. behind the TAPE", """
            "noise 1"
            count(6) = 7
            "23;"
            count(6) = 10
            land() = 1
            count(5) = 123
            """);
    }

    private static void ends() {
        edge("3. NONE, and nothing happens, if it has not so many, or n is below 0", """
            ! end(1) = NONE
            ! end(0) = 0
            ! end(-1) = NONE
            "noise 12;noise 3;"
            ! end(18) = NONE
            ! end(600) = NONE
            ! end(601) = NONE
            ! end(MAX) = NONE
            ! end(-1) = NONE
            ! end(MIN) = NONE
            count(6) = 17
            ! end(17) = 17
            """);
        edge("3. The TAPE has its first n bytes alone: n", """
            "noise 12;noise 3;"
            end(9) = 9
            count(6) = 9
            end(10) = NONE
            land() = 1
            count(5) = 12
            "noise 12;noise 3;"
            end(7) = 7
            " ;" = 1
            count(5) = 1
            "noise 12;"
            end(0) = 0
            count(6) = 0
            land() = 0
            """);
        edge("3. what is cut off is read no more", """
            "noise 123;"
            end(8) = 8
            land() = -4
            fault(0) = 1
            fault(1) = 8
            end(0) = 0
            "lawx"
            end(3) = 3
            land() = -4
            fault(1) = 3
            end(0) = 0
            "noise 1;  x"
            end(9) = 9
            land() = 1
            "noise 7"
            end(6) = 6
            land() = -4
            fault(1) = 6
            end(0) = 0
            "noise 7;x"
            end(8) = 8
            land() = 1
            count(5) = 7
            """);
    }

    // ---------------------------------------------------------------- promises 4 and 5

    private static void lands() {
        edge("4. The TAPE (empty then) is the LAND (in place of another)", """
            "law enter 6 leave 15;sort share 1 gift 2 wish 3;leak 1 by 9;wage 7;noise 5;" = 5
            count(6) = 0
            count(0) = 1
            count(1) = 1
            count(3) = 5
            count(4) = 1
            count(5) = 5
            wage(0, 0, 1, 0) = 7
            draw(0, 1) = 1
            # the first SHEET of the seed 0 is of MONTH 1: gift and leak
            told(0, 4) = 11
            "law enter 7 leave 16;sort share 1 gift 4 wish 3;" = 2
            count(3) = 2
            count(4) = 0
            count(5) = 0
            old(0, 9) = 84
            wage(0, 0, 1, 0) = 0
            draw(0, 1) = 1
            told(0, 4) = 4
            land() = 0
            count(0) = 0
            count(1) = 0
            count(3) = 0
            forced(0, 1) = -2
            """);
        edge("4. (in place of another): shares, too", """
            "law enter 6 leave 15;sort share 3 gift 5 wish 90;sort share 4 gift 9 wish 140;leak 5 by 9;" = 4
            draw(9, 1) = 1
            told(0, 4) = 9
            "law enter 6 leave 15;sort share 3 gift 5 wish 90;sort share 4 gift 9 wish 140;" = 3
            "law enter 6 leave 15;sort share 3 gift 5 wish 90;sort share 4 gift 9 wish 140;" = 3
            # third draws of 7: 6 (and 13 of 14), 3, 2, 0
            draw(24, 1) = 1
            told(0, 4) = 9
            draw(9, 1) = 1
            told(0, 4) = 9
            draw(13, 1) = 1
            told(0, 4) = 5
            draw(20, 1) = 1
            told(0, 4) = 5
            """);
        edge("4. the SHEETS stay as they are", """
            "law enter 6 leave 15;sort share 1 gift 2 wish 3;wage 7;" = 3
            draw(0, 2) = 2
            sheet(0, 3, 4, 5) = 2
            land() = 0
            count(2) = 3
            told(0, 0) = 0
            told(0, 1) = 1
            told(0, 2) = 100
            told(0, 3) = 7
            told(0, 4) = 2
            told(0, 5) = 3
            told(2, 1) = 3
            told(2, 2) = 4
            told(2, 3) = 5
            "law enter 9 leave 20;wage 8;" = 2
            told(0, 2) = 100
            told(0, 3) = 7
            """);
    }

    private static void landsWithAFault() {
        edge("4. -4: a FAULT (all stays)", """
            "law enter 6 leave 15;sort share 1 gift 2 wish 3;leak 1 by 9;wage 7;noise 5;" = 5
            draw(0, 3) = 3
            keep(1) = 0
            row(2, 1, 4) = 0
            "noise 7;x" = -4
            end(0) = 0
            # both texts have their FAULT at one place: fault() tells the same of both
            "noise 9;y"
            ! land() = -4
            count(0) = 1
            count(1) = 1
            count(2) = 3
            count(3) = 5
            count(4) = 1
            count(5) = 5
            forced(0, 1) = 100
            wage(0, 0, 1, 0) = 7
            """);
        edge("4. (all stays), the TAPE too", """
            "noise 7;x" = -4
            count(6) = 9
            land() = -4
            fault(1) = 8
            end(8) = 8
            land() = 1
            count(5) = 7
            count(6) = 0
            """);
        edge("4. (all stays), what a draw takes from the LAND too", """
            "law enter 6 leave 15;sort share 1 gift 2 wish 3;leak 1 by 9;" = 3
            "law enter 7 leave 16;law enter 8 leave 17;sort share 5 gift 50 wish 50;leak 1 by 1;leak 2 by 2;noise 9;wage 8;;" = -4
            draw(0, 1) = 1
            told(0, 0) = 0
            told(0, 3) = 0
            told(0, 4) = 11
            told(0, 5) = 3
            """);
    }

    private static void faults() {
        edge("5. NONE for another what, and ahead of any (what 1)", """
            ! fault(0) = 0
            ! fault(1) = NONE
            ! fault(2) = NONE
            ! fault(-1) = NONE
            ! fault(MIN) = NONE
            ! fault(MAX) = NONE
            "noise 1000;" = -4
            ! fault(0) = 2
            ! fault(1) = 6
            ! fault(2) = NONE
            ! fault(-1) = NONE
            """);
        edge("5. Of the latest land(): 0 without (NONE without)", """
            "x" = -4
            fault(0) = 1
            fault(1) = 0
            end(0) = 0
            fault(0) = 1
            fault(1) = 0
            "noise 1;"
            fault(0) = 1
            keep(0) = 0
            land() = 1
            fault(0) = 0
            fault(1) = NONE
            "law enter 6 leave 15;law enter 6 leave 15;law enter 6 leave 15;law enter 6 leave 15;law enter 6 leave 15;law enter 6 leave 15;law" = -4
            fault(0) = 3
            fault(1) = 126
            back(0) = 0
            fault(0) = 3
            fault(1) = 126
            """);
    }
}
