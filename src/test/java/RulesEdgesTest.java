/** The edges that the first half of Term IV and promises 18 to 21 name, each sentence by itself. */
public final class RulesEdgesTest {
    private static final Check CHECK = new Check();
    private static final String BLANKS = "feed(538976288, 538976288, 538976288, 538976288, 538976288)";

    public static void main(String[] args) {
        twentyBytes();
        highestFirst();
        tapeIsFull();
        endOfTape();
        emptyThen();
        blanksAlone();
        textOfTwoHundred();
        anyBlanks();
        noOtherBlanks();
        longestRows();
        singleOtherBytes();
        noRuleBetween();
        kindsOfPool();
        seamenFromTo();
        closeFromTo();
        stakeFromTo();
        secondNotBelow();
        numbersAsWritten();
        faultOfTheEnd();
        faultIsTheFirst();
        faultOfTheLatest();
        tenRules();
        eleventhRule();
        theLastOfEachKind();
        without();
        theyStay();
        CHECK.finish();
    }

    private static Story story(String title) {
        return new Story(CHECK, title);
    }

    private static void good(String text, int rules) {
        story("'" + text + "'").rules(text, rules).due("count(3)", rules).due("count(7)", 0);
    }

    private static void bad(String text, int place) {
        story("'" + text + "'").fault(text, place).due("count(3)", 0).due("count(7)", 0);
    }

    private static void twentyBytes() {
        Story x = story("how many it has");
        for (int n = 1; n <= 10; n++) {
            x.due(BLANKS, 20 * n).due("count(7)", 20 * n);
        }
        x.due("end(7)", 7).due(BLANKS, 27).due("end(27)", 27).due("count(7)", 27);
    }

    private static void highestFirst() {
        // "seam", "en 1", "00; ", "pool", " bel": then "ow"
        story("four of each number").due("feed(1936023917, 1701716017, 808467232, 1886351212, 543319404)", 20)
            .due("feed(1870078063, 2147483647, -1, -2147483648, 0)", 40).due("end(22)", 22).taken("rules()", 2);
        // Bytes from 128 to 255 and 0 are single ones that no RULE has.
        story("bytes above 127").due("feed(-1, 0, 0, 0, 0)", 20).refused("rules()", -6).due("fault()", 0);
        story("the lowest byte").due("feed(538976512, 0, 0, 0, 0)", 20).refused("rules()", -6).due("fault()", 2);
        story("the byte 0").due("feed(538976256, 0, 0, 0, 0)", 20).refused("rules()", -6).due("fault()", 3);
    }

    private static void tapeIsFull() {
        Story x = story("200 bytes").after(new Script().times(10, BLANKS));
        x.due(BLANKS, -1).due("count(7)", 200).due("end(181)", 181).due(BLANKS, -1).due("count(7)", 181)
            .due("end(180)", 180).due(BLANKS, 200).due("end(200)", 200).due("end(201)", -1).due("count(7)", 200)
            .taken("rules()", 0).due(BLANKS, 20);
    }

    private static void endOfTape() {
        story("its first n bytes").due("end(0)", 0).due("end(1)", -1).due("end(-1)", -1).due(BLANKS, 20)
            .due("end(21)", -1).due("end(-1)", -1).due("end(LEAST)", -1).due("end(MOST)", -1).due("count(7)", 20)
            .due("end(20)", 20).due("count(7)", 20).due("end(19)", 19).due("end(20)", -1).due("count(7)", 19)
            .due("end(0)", 0).due("end(1)", -1).due("count(7)", 0);
        // What was cut off does not come back.
        story("cut").after(new Script().tape("pool exact")).due("end(4)", 4)
            .due("feed(538976288, 1650814063, 1996488704, 0, 0)", 24).due("end(13)", 13).taken("rules()", 1);
    }

    private static void emptyThen() {
        story("the TAPE is empty then").rules("pool exact", 1).due("count(7)", 0).due("end(1)", -1).taken("rules()", 0)
            .due("count(3)", 0).fault("pool", 4).due("count(7)", 0).due("end(1)", -1).taken("rules()", 0);
    }

    private static void blanksAlone() {
        good("", 0);
        good(" ", 0);
        good(" ".repeat(199), 0);
        good(" ".repeat(200), 0);
    }

    private static void textOfTwoHundred() {
        good(" ".repeat(190) + "pool exact", 1);
        good("pool exact" + " ".repeat(190), 1);
        good("pool" + " ".repeat(191) + "exact", 1);
        bad(" ".repeat(191) + "pool exac", 196);
        bad(" ".repeat(199) + "p", 199);
        bad("z".repeat(200), 0);
        bad("7".repeat(200), 0);
        bad(";".repeat(200), 0);
        bad(" ".repeat(192) + "seamen  ", 200);
        good("seamen " + "0".repeat(193), 1);
        bad("seamen " + "0".repeat(190) + "101", 7);
    }

    private static void anyBlanks() {
        good("pool exact", 1);
        good("  pool   exact  ", 1);
        good("seamen5;close7", 2);
        good("seamen 5 ; close 7", 2);
        good("stake1to2", 1);
        good("stake  1  to  2  ;pool below", 2);
        bad("poolexact", 0);
        bad("stake 1 to2 3", 12);
        bad("sea men 5", 0);
        bad("seamen 1 0", 9);
        bad("pool ex act", 5);
    }

    private static void noOtherBlanks() {
        bad("\tpool exact", 0);
        bad("pool\nexact", 4);
        bad("pool exact\r", 10);
        bad("pool\u00a0exact", 4);
        bad("pool\u0000exact", 4);
        bad("pool\u001fexact", 4);
        bad("pool!exact", 4);
    }

    private static void longestRows() {
        bad("pools exact", 0);
        bad("apool exact", 0);
        bad("pool exacta", 5);
        bad("pool exactz", 5);
        bad("pool zexact", 5);
        bad("seamenx 5", 0);
        bad("seamen x5", 7);
        good("close5 ;close05", 2);
        bad("close5x", 6);
        bad("5close 5", 0);
        bad("stake 5 tox 6", 8);
        bad("stake 5 t o 6", 8);
    }

    private static void singleOtherBytes() {
        bad("pool `exact", 5);
        bad("pool {exact", 5);
        bad("pool @exact", 5);
        bad("pool Exact", 5);
        bad("POOL exact", 0);
        bad("seamen /5", 7);
        bad("seamen :5", 7);
        bad("seamen 5/", 8);
        bad("seamen 5:", 8);
        bad("seamen -0", 7);
        bad("seamen +5", 7);
        bad("seamen 5.0", 8);
        bad("pool exact;\u00ff", 11);
    }

    private static void noRuleBetween() {
        bad(";", 0);
        bad("  ;", 2);
        bad(";pool exact", 0);
        bad("pool exact;", 11);
        bad("pool exact;  ", 13);
        bad("pool exact;;pool exact", 11);
        bad("pool exact ; ; pool exact", 13);
        bad("pool exact pool exact", 11);
        bad("pool exact,pool exact", 10);
    }

    private static void kindsOfPool() {
        good("pool nearest", 1);
        good("pool below", 1);
        good("pool exact", 1);
        bad("pool above", 5);
        bad("pool near", 5);
        bad("pool pool", 5);
        bad("pool 5", 5);
        bad("pool;", 4);
        bad("pool", 4);
        bad("nearest", 0);
    }

    private static void seamenFromTo() {
        good("seamen 0", 1);
        good("seamen 100", 1);
        bad("seamen 101", 7);
        bad("seamen -1", 7);
        bad("seamen 1000", 7);
        bad("seamen 2147483647", 7);
        bad("seamen 2147483648", 7);
        bad("seamen 4294967296", 7);
        bad("seamen 4294967396", 7);
        bad("seamen 18446744073709551616", 7);
        bad("seamen", 6);
        bad("seamen;", 6);
        bad("seamen seamen", 7);
    }

    private static void closeFromTo() {
        good("close 0", 1);
        good("close 35", 1);
        bad("close 36", 6);
        bad("close -1", 6);
        bad("close 350", 6);
        bad("close 4294967296", 6);
        bad("close", 5);
        bad("close to 5", 6);
    }

    private static void stakeFromTo() {
        good("stake 0 to 0", 1);
        good("stake 0 to 10000", 1);
        good("stake 10000 to 10000", 1);
        bad("stake 10001 to 10001", 6);
        bad("stake 0 to 10001", 11);
        bad("stake 10000 to 10001", 15);
        bad("stake 4294967296 to 4294967297", 6);
        bad("stake 0 to 4294967297", 11);
        bad("stake -1 to 5", 6);
        bad("stake", 5);
        bad("stake 0", 7);
        bad("stake 0 ", 8);
        bad("stake 0 5", 8);
        bad("stake 0 to", 10);
        bad("stake 0 to;", 10);
        bad("stake to 5", 6);
        bad("stake 0 - 5", 8);
    }

    private static void secondNotBelow() {
        good("stake 7 to 7", 1);
        good("stake 7 to 8", 1);
        bad("stake 7 to 6", 11);
        bad("stake 10000 to 9999", 15);
        bad("stake 1 to 0", 11);
        // The numbers, not their digits.
        good("stake 9 to 10", 1);
        bad("stake 10 to 9", 12);
        good("stake 0009 to 9", 1);
    }

    private static void numbersAsWritten() {
        good("close 035", 1);
        good("close 000000000000000000000000000000000000000000000000000000000000035", 1);
        bad("close 036", 6);
        good("seamen 00", 1);
        good("stake 00000 to 0010000", 1);
        story("035 is 35").after("person(0, 0, 1, NONE)", "bet(0, 0, 0, 5, 35)", "day(0, 0)").rules("close 034", 1)
            .due("pool(0, 0)", 0).rules("close 035", 1).due("pool(0, 0)", 5);
    }

    private static void faultOfTheEnd() {
        bad("pool ", 5);
        bad("pool" + " ".repeat(196), 200);
        bad("pool exact;" + " ".repeat(9), 20);
        bad("stake 5 to   ", 13);
        bad("seamen  ", 8);
    }

    private static void faultIsTheFirst() {
        bad("seamen 101;close 36", 7);
        bad("seamen 100;close 36", 17);
        bad("pool exact;stake 5 to 4;seamen 101", 22);
        bad("x y z", 0);
        bad(" x", 1);
    }

    private static void faultOfTheLatest() {
        story("FAULT of the latest rules()").due("fault()", -1).fault("pool", 4).due("fault()", 4)
            .after(BLANKS, "end(0)").due("fault()", 4).fault("close 36", 6).due("fault()", 6)
            .fault("x", 0).due("fault()", 0).taken("rules()", 0).due("fault()", -1).fault("pool", 4)
            .rules("pool exact", 1).due("fault()", -1).refused("cabin(3, 1)", -1).due("fault()", -1);
    }

    private static String rules(int n) {
        return "close 1" + ";close 2".repeat(n - 1);
    }

    private static void tenRules() {
        good(rules(1), 1);
        good(rules(9), 9);
        good(rules(10), 10);
        good(rules(10) + "  ", 10);
        good("pool exact;seamen 5;close 5;stake 5 to 5;pool below;seamen 6;close 6;stake 6 to 6;close 7;close 8", 10);
    }

    private static void eleventhRule() {
        bad(rules(11), 80);
        bad(rules(12), 80);
        bad(rules(10) + " ; close 3", 82);
        bad(rules(10) + ";close 99", 80);
        bad(rules(10) + ";x", 80);
        bad(rules(10) + ";;", 80);
        bad(rules(10) + ";", 80);
        bad(rules(10) + ";  ", 82);
        bad(rules(10) + " close 3", 80);
        bad(rules(9) + ";close 36;close 1", 78);
    }

    /** Bets of 100 and 200 in watches 0 and 35 on 10 and 20 miles, with a day of 16. */
    private static Story bets(String title) {
        return story(title).after("person(0, 0, 1, NONE)", "bet(0, 0, 10, 100, 0)", "bet(0, 0, 20, 200, 35)",
            "day(0, 16)");
    }

    private static void theLastOfEachKind() {
        bets("the last kind").rules("pool below;pool exact;pool nearest", 3).due("wins(1)", 300)
            .rules("pool nearest;pool below", 2).due("wins(0)", 300).rules("pool below;pool exact", 2)
            .due("pool(0, 3)", 0);
        bets("the last seamen").rules("seamen 100;seamen 1", 2).due("pool(0, 1)", 3).rules("seamen 1;seamen 0", 2)
            .due("pool(0, 1)", 0);
        bets("the last close").rules("close 35;close 0", 2).due("pool(0, 0)", 100).rules("close 0;close 35", 2)
            .due("pool(0, 0)", 300);
        bets("the last stake").rules("stake 0 to 10000;stake 101 to 200", 2).due("pool(0, 0)", 200)
            .rules("stake 200 to 200;stake 0 to 199;seamen 50", 3).due("pool(0, 0)", 100).due("pool(0, 1)", 50);
    }

    private static void without() {
        bets("nearest, 0, 35, 0 to 10,000").after("bet(0, 0, 17, 0, 35)", "bet(0, 0, 15, 10000, 35)")
            .due("count(3)", 0).due("pool(0, 0)", 10300).due("pool(0, 1)", 0).due("pool(0, 3)", 2).due("wins(2)", 5150)
            .rules("seamen 100;pool exact;close 0;stake 1 to 1", 4).due("pool(0, 0)", 0).taken("rules()", 0)
            .due("count(3)", 0).due("pool(0, 0)", 10300).due("pool(0, 1)", 0).due("wins(3)", 5150)
            .rules("seamen 10", 1).due("pool(0, 1)", 1030).rules("pool below", 1).due("pool(0, 1)", 0)
            .due("pool(0, 3)", 1);
    }

    private static void theyStay() {
        bets("they stay").rules("seamen 50;pool below", 2).fault("seamen 100;pool exact;close 0;stake 0 to 0;x", 43)
            .due("count(3)", 2).due("pool(0, 0)", 300).due("pool(0, 1)", 150).due("wins(0)", 150).due("fault()", 43)
            .fault("pool exact;pool", 15).due("count(3)", 2).due("wins(0)", 150);
    }
}
