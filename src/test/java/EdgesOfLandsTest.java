/** Edges, sentence by sentence: Terms II without DRAWS, and promises 6 to 8. */
public final class EdgesOfLandsTest {
    private static final Check C = new Check("EdgesOfLandsTest");
    /** 1,000,000,000, and the least product above it that numbers up to 999 can make. */
    private static final String BILLION = "100 times 100 times 100 times 100 times 10";
    private static final String ABOVE_BILLION = "504 times 109 times 109 times 167";

    public static void main(String[] args) {
        oldAndForced();
        wagesAtTheirBounds();
        numbersOnTheWay();
        dividedByNothing();
        partsOfWhoItIs();
        forcedOfNone();
        oldOfNone();
        wageOfNone();
        C.close();
    }

    private static void edge(String sentence, String lines) {
        Story.tell(C, sentence, lines);
    }

    private static void wage(String sentence, String sum, String call, int due) {
        edge(sentence, "\"law enter 6 leave 15;wage " + sum + ";\" = 2\n" + call + " = " + due);
    }

    private static void wage(String sentence, String sum, int due) {
        wage(sentence, sum, "wage(0, 0, 1, 0)", due);
    }

    // ---------------------------------------------------------------- Terms II

    private static void oldAndForced() {
        edge("II. OLD: 12 times enter, and 9, less MONTH", """
            "law enter 4 leave 10;law enter 9 leave 20;" = 2
            old(0, 1) = 56
            old(0, 8) = 49
            old(0, 9) = 48
            old(0, 10) = 47
            old(0, 12) = 45
            old(1, 1) = 116
            old(1, 12) = 105
            """);
        edge("II. FORCED: 12 times leave, less OLD", """
            "law enter 9 leave 10;law enter 4 leave 20;law enter 6 leave 15;" = 3
            forced(0, 1) = 4
            forced(0, 12) = 15
            forced(1, 1) = 184
            forced(1, 12) = 195
            forced(2, 9) = 108
            """);
    }

    private static void wagesAtTheirBounds() {
        wage("II. it is 0 at least", "5 minus 4", 1);
        wage("II. it is 0 at least", "5 minus 5", 0);
        wage("II. it is 0 at least", "5 minus 6", 0);
        wage("II. it is 0 at least", "5 minus 999 times 999", 0);
        wage("II. then it is 0 at least: not on the way", "5 minus 6 plus 3", 2);
        wage("II. it is 9999 at most", "999 times 10 plus 8", 9998);
        wage("II. it is 9999 at most", "999 times 10 plus 9", 9999);
        wage("II. it is 9999 at most", "999 times 10 plus 10", 9999);
        wage("II. it is 9999 at most", "999 times 999 times 999", 9999);
        wage("II. then it is 9999 at most: not on the way", "999 times 10 plus 10 minus 1", 9999);
        wage("II. then it is 9999 at most: not on the way", "999 times 10 plus 10 minus 2", 9998);
        wage("II. its TERMS from the left", "10 minus 3 minus 2", 5);
        wage("II. its TERMS from the left", "10 minus 3 plus 2", 9);
        wage("II. its TERMS from the left", "2 plus 3 times 4", 14);
        wage("II. its TERMS from the left", "100 over 5 times 4", 80);
        wage("II. its TERMS from the left", "100 over 5 over 4", 5);
        wage("II. over cut towards 0", "7 over 2", 3);
        wage("II. over cut towards 0", "1 over 2", 0);
        wage("II. over cut towards 0", "1 over 999 times 999", 0);
        wage("II. over cut towards 0, each by itself", "7 over 2 plus 7 over 2", 6);
        wage("II. over cut towards 0, ahead of minus", "10 minus 7 over 2", 7);
    }

    private static void numbersOnTheWay() {
        wage("II. a partial TERM of 1,000,000,000", BILLION + " over 500 over 500", 4000);
        wage("II. a partial TERM beyond 1,000,000,000", ABOVE_BILLION + " over 500 over 500", 0);
        wage("II. a partial TERM beyond, times 0 then", ABOVE_BILLION + " times 0", 0);
        wage("II. a partial TERM beyond, times 0 then, and 7", ABOVE_BILLION + " times 0 plus 7", 0);
        wage("II. a partial TERM beyond, in the second TERM", "7 plus " + ABOVE_BILLION + " times 0", 0);
        wage("II. a partial TERM beyond, behind minus", "7 minus " + ABOVE_BILLION + " times 0", 0);
        wage("II. a partial TERM far beyond what a long holds", "7 plus 999" + " times 999".repeat(20) + " times 0", 0);
        wage("II. a partial SUM of 1,000,000,000", BILLION + " plus 0 minus " + BILLION + " plus 7", 7);
        wage("II. a partial SUM beyond 1,000,000,000", BILLION + " plus 1 minus " + BILLION + " plus 7", 0);
        wage("II. a SUM of 1,000,000,000", BILLION, 9999);
        wage("II. a SUM beyond 1,000,000,000", BILLION + " plus 1", 0);
        wage("II. a partial SUM of -1,000,000,000", "0 minus " + BILLION + " plus " + BILLION + " plus 7", 7);
        wage("II. a partial SUM of -1,000,000,001", "0 minus " + BILLION + " minus 1 plus " + BILLION + " plus 7", 0);
        wage("II. the first of several SUMS beyond", "1 plus " + BILLION + " minus " + BILLION + " plus 7", 0);
    }

    private static void dividedByNothing() {
        wage("II. or it is divided by 0", "5 over 0", 0);
        wage("II. or it is divided by 0", "5 over 1", 5);
        wage("II. or it is divided by 0: 0 by 0", "0 over 0 plus 5", 0);
        wage("II. or it is divided by 0, in a later TERM", "9 plus 5 over 0", 0);
        wage("II. or it is divided by 0, in a first TERM", "5 over 0 plus 9", 0);
        wage("II. or it is divided by 0, and times 0", "9 plus 5 over 0 times 0", 0);
        wage("II. or it is divided by 0: by school", "9 plus 5 over school", "wage(0, 0, 1, 0)", 0);
        wage("II. or it is divided by 0: by school", "9 plus 5 over school", "wage(1, 0, 1, 0)", 14);
        wage("II. or it is divided by 0: by gift", "9 plus 5 over gift", "wage(0, 0, 1, 0)", 0);
        wage("II. or it is divided by 0: by gift", "9 plus 5 over gift", "wage(0, 5, 1, 0)", 10);
        edge("II. or without a SUM", """
            "law enter 6 leave 15;" = 1
            wage(0, 0, 1, 0) = 0
            wage(300, 999, 12, 0) = 0
            """);
    }

    private static void partsOfWhoItIs() {
        edge("II. (month: MONTH; school, gift, old, forced: those of who it is)", """
            "law enter 6 leave 15;law enter 9 leave 20;wage month;" = 3
            wage(0, 0, 1, 0) = 1
            wage(0, 0, 12, 1) = 12
            "law enter 6 leave 15;law enter 9 leave 20;wage school;" = 3
            wage(0, 0, 1, 0) = 0
            wage(300, 0, 1, 0) = 300
            "law enter 6 leave 15;law enter 9 leave 20;wage gift;" = 3
            wage(0, 0, 1, 0) = 0
            wage(0, 999, 1, 0) = 999
            "law enter 6 leave 15;law enter 9 leave 20;wage old;" = 3
            wage(0, 0, 1, 0) = 80
            wage(0, 0, 12, 1) = 105
            "law enter 6 leave 15;law enter 9 leave 20;wage forced;" = 3
            wage(0, 0, 1, 0) = 100
            wage(0, 0, 12, 1) = 135
            """);
    }

    // ---------------------------------------------------------------- promises 6 to 8

    private static final String TWO_LAWS = "\"law enter 6 leave 15;law enter 7 leave 16;wage school plus gift plus month plus old;noise 9;\" = 4\n";

    private static void forcedOfNone() {
        edge("6. -2: there are none such", TWO_LAWS + """
            ! forced(0, 1) = 100
            ! forced(1, 12) = 111
            ! forced(0, 0) = -2
            ! forced(0, 13) = -2
            ! forced(0, -1) = -2
            ! forced(0, MIN) = -2
            ! forced(0, MAX) = -2
            ! forced(-1, 1) = -2
            ! forced(2, 1) = -2
            ! forced(MIN, 1) = -2
            ! forced(MAX, 1) = -2
            """);
    }

    private static void oldOfNone() {
        edge("7. -2: there are none such", TWO_LAWS + """
            ! old(0, 1) = 80
            ! old(1, 12) = 81
            ! old(0, 0) = -2
            ! old(0, 13) = -2
            ! old(0, -1) = -2
            ! old(0, MIN) = -2
            ! old(0, MAX) = -2
            ! old(-1, 1) = -2
            ! old(2, 1) = -2
            ! old(MIN, 1) = -2
            ! old(MAX, 1) = -2
            """);
    }

    private static void wageOfNone() {
        edge("8. for a SCHOOL (0 .. 300)", TWO_LAWS + """
            ! wage(0, 5, 1, 0) = 86
            ! wage(300, 5, 1, 0) = 386
            ! wage(-1, 5, 1, 0) = -2
            ! wage(301, 5, 1, 0) = -2
            ! wage(MIN, 5, 1, 0) = -2
            ! wage(MAX, 5, 1, 0) = -2
            """);
        edge("8. a GIFT (0 .. 999)", TWO_LAWS + """
            ! wage(5, 0, 1, 0) = 86
            ! wage(5, 999, 1, 0) = 1085
            ! wage(5, -1, 1, 0) = -2
            ! wage(5, 1000, 1, 0) = -2
            ! wage(5, MIN, 1, 0) = -2
            ! wage(5, MAX, 1, 0) = -2
            """);
        edge("8. a MONTH", TWO_LAWS + """
            ! wage(5, 5, 1, 0) = 91
            ! wage(5, 5, 12, 0) = 91
            ! wage(5, 5, 0, 0) = -2
            ! wage(5, 5, 13, 0) = -2
            ! wage(5, 5, MIN, 0) = -2
            ! wage(5, 5, MAX, 0) = -2
            """);
        edge("8. in a STATE", TWO_LAWS + """
            ! wage(5, 5, 1, 1) = 103
            ! wage(5, 5, 1, -1) = -2
            ! wage(5, 5, 1, 2) = -2
            ! wage(5, 5, 1, MIN) = -2
            ! wage(5, 5, 1, MAX) = -2
            land() = 0
            ! wage(5, 5, 1, 0) = -2
            """);
        edge("8. WAGE by the SUM, without noise", """
            "law enter 6 leave 15;wage 3;noise 999;" = 3
            wage(5, 5, 1, 0) = 3
            wage(5, 5, 1, 0) = 3
            """);
    }
}
