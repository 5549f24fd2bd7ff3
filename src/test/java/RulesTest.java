/** Promises 18 to 21: feed, end, rules, fault. */
public final class RulesTest {
    private static final Check CHECK = new Check();
    private static final int BLANKS = 0x20202020;

    public static void main(String[] args) {
        tape();
        goodTexts();
        faults();
        elevenRules();
        rulesStay();
        whatRulesSay();
        CHECK.finish();
    }

    private static void due(String call, int got, int want) {
        CHECK.due(call, got, want);
    }

    private static int four(String text, int at) {
        int word = 0;
        for (int i = at; i < at + 4; i++) {
            word = word << 8 | (i < text.length() ? text.charAt(i) : ' ');
        }
        return word;
    }

    static void feed(SixDays x, String text) {
        for (int at = 0; at < text.length(); at += 20) {
            x.feed(four(text, at), four(text, at + 4), four(text, at + 8), four(text, at + 12), four(text, at + 16));
        }
        x.end(text.length());
    }

    private static void reads(SixDays x, String text, int rules) {
        feed(x, text);
        due("length of '" + text + "'", x.count(7), text.length());
        due("rules() of '" + text + "'", x.rules(), rules);
        due("status() of '" + text + "'", x.status(), 0);
        due("fault() of '" + text + "'", x.fault(), -1);
        due("count(3) of '" + text + "'", x.count(3), rules);
        due("tape behind '" + text + "'", x.count(7), 0);
    }

    private static void fails(SixDays x, String text, int place) {
        int before = x.count(3);
        feed(x, text);
        due("rules() of '" + text + "'", x.rules(), -6);
        due("status() of '" + text + "'", x.status(), -6);
        due("fault() of '" + text + "'", x.fault(), place);
        due("count(3) of '" + text + "'", x.count(3), before);
        due("tape behind '" + text + "'", x.count(7), 0);
    }

    private static void tape() {
        SixDays x = new SixDays();
        x.cabin(9, 9);
        due("end(0) of nothing", x.end(0), 0);
        due("end(1) of nothing", x.end(1), -1);
        for (int i = 1; i <= 10; i++) {
            due("feed " + i, x.feed(BLANKS, -1, 0, BLANKS, BLANKS), 20 * i);
        }
        due("feed 11", x.feed(BLANKS, BLANKS, BLANKS, BLANKS, BLANKS), -1);
        due("count(7)", x.count(7), 200);
        due("end(201)", x.end(201), -1);
        due("end(-1)", x.end(-1), -1);
        due("end of much less", x.end(Integer.MIN_VALUE), -1);
        due("end of much more", x.end(Integer.MAX_VALUE), -1);
        due("end(200)", x.end(200), 200);
        due("end(181)", x.end(181), 181);
        due("feed to 201", x.feed(0, 0, 0, 0, 0), -1);
        due("end(180)", x.end(180), 180);
        due("feed to 200", x.feed(0, 0, 0, 0, 0), 200);
        due("feed and end are not refused with a code", x.status(), -1);
        due("fault ahead of rules", x.fault(), -1);
        due("end(0)", x.end(0), 0);
        due("count(7) of none", x.count(7), 0);
        due("the highest byte comes first", x.feed(four("pool", 0), four(" exa", 0), four("ct@@", 0), 0, 0), 20);
        due("end(10)", x.end(10), 10);
        due("rules of these", x.rules(), 1);
    }

    private static void goodTexts() {
        SixDays x = new SixDays();
        due("rules() of nothing", x.rules(), 0);
        reads(x, " ", 0);
        reads(x, " ".repeat(200), 0);
        reads(x, "pool nearest", 1);
        reads(x, "poolbelow".replace("lb", "l b"), 1);
        reads(x, "  pool   exact  ", 1);
        reads(x, "seamen 0;seamen 100", 2);
        reads(x, "seamen10;close35;stake0to10000", 3);
        reads(x, "close 0 ; close 035", 2);
        reads(x, "stake 7 to 7", 1);
        reads(x, "stake 10000 to 10000", 1);
        reads(x, "close 00000000000000000000000000000000000009", 1);
        reads(x, "pool exact;seamen 5;close 3;stake 1 to 2", 4);
        reads(x, "pool below;pool below;pool below;pool below;pool below;pool exact;close 1;close 2;close 3;close 4", 10);
        reads(x, " ".repeat(188) + "pool nearest", 1);
    }

    private static void faults() {
        SixDays x = new SixDays();
        fails(x, "pool", 4);
        fails(x, "pool  ", 6);
        fails(x, "poolbelow", 0);
        fails(x, "pools below", 0);
        fails(x, "poolz below", 0);
        fails(x, "poola below", 0);
        fails(x, "pool{below", 4);
        fails(x, "pool`below", 4);
        fails(x, "seamen 1/", 8);
        fails(x, "seamen 1:", 8);
        fails(x, "poo below", 0);
        fails(x, "Pool below", 0);
        fails(x, "pool Below", 5);
        fails(x, "pool belo", 5);
        fails(x, "pool 5", 5);
        fails(x, "pool below seamen 5", 11);
        fails(x, "pool below;", 11);
        fails(x, "pool below ;  ", 14);
        fails(x, ";", 0);
        fails(x, " ;pool below", 1);
        fails(x, "pool below;;pool exact", 11);
        fails(x, "seamen", 6);
        fails(x, "seamen x", 7);
        fails(x, "seamen 101", 7);
        fails(x, "seamen -1", 7);
        fails(x, "seamen 4294967297", 7);
        fails(x, "seamen 99999999999999999999999999", 7);
        fails(x, "seamen 1 0", 9);
        fails(x, "seamen 10%", 9);
        fails(x, "close 36", 6);
        fails(x, "close five", 6);
        fails(x, "close 3x", 7);
        fails(x, "stake", 5);
        fails(x, "stake 10001 to 10001", 6);
        fails(x, "stake to 5", 6);
        fails(x, "stake 5", 7);
        fails(x, "stake 5 5", 8);
        fails(x, "stake 5 to", 10);
        fails(x, "stake 5 tot 6", 8);
        fails(x, "stake 5 to 4", 11);
        fails(x, "stake 5 to 10001", 11);
        fails(x, "stake 5 to to", 11);
        fails(x, "to 5", 0);
        fails(x, "7", 0);
        fails(x, "\t", 0);
        fails(x, "\u00e1", 0);
        fails(x, "pool\u00a0below", 4);
        fails(x, "pool below\u0000", 10);
        fails(x, "pool " + "a".repeat(195), 5);
        fails(x, "seamen " + "9".repeat(193), 7);
        fails(x, " ".repeat(196) + "pool", 200);
    }

    private static void elevenRules() {
        SixDays x = new SixDays();
        String ten = "close 1;close 2;close 3;close 4;close 5;close 6;close 7;close 8;close 9;close 0";
        reads(x, ten, 10);
        fails(x, ten + ";close 1", ten.length() + 1);
        fails(x, ten + " ;  close 1", ten.length() + 4);
        fails(x, ten + ";", ten.length() + 1);
        fails(x, ten + ";close 99", ten.length() + 1);
        fails(x, ten + " close 1", ten.length() + 1);
    }

    private static SixDays withBets() {
        SixDays x = new SixDays();
        x.person(0, 0, 1, -1);
        x.bet(0, 0, 10, 100, 0);
        x.bet(0, 0, 20, 200, 35);
        x.day(0, 16);
        return x;
    }

    private static void rulesStay() {
        SixDays x = withBets();
        reads(x, "pool below;seamen 10", 2);
        due("winner below", x.wins(0), 270);
        fails(x, "seamen 50;pool exact;close 0;stake 5 to 6 7", 42);
        due("winner below still", x.wins(0), 270);
        due("seamen still", x.pool(0, 1), 30);
        reads(x, "close 34", 1);
        due("fault is gone", x.fault(), -1);
        due("the others are not kept", x.pool(0, 1), 0);
        due("only the close", x.pool(0, 0), 100);
        reads(x, "", 0);
        due("as at first", x.wins(1), 300);
    }

    private static void whatRulesSay() {
        SixDays x = withBets();
        due("nearest without", x.wins(1), 300);
        reads(x, "pool exact;pool nearest", 2);
        due("the last kind", x.wins(1), 300);
        reads(x, "pool nearest;pool exact", 2);
        due("exact: none", x.pool(0, 3), 0);
        reads(x, "seamen 99;seamen 1", 2);
        due("the last seamen", x.pool(0, 1), 3);
        reads(x, "close 35;close 0", 2);
        due("the last close", x.pool(0, 0), 100);
        reads(x, "close 34", 1);
        due("behind the close", x.pool(0, 0), 100);
        reads(x, "stake 0 to 100;stake 101 to 200", 2);
        due("the last stake", x.pool(0, 0), 200);
        reads(x, "stake 100 to 199", 1);
        due("stakes from", x.pool(0, 0), 100);
        reads(x, "stake 100 to 200", 1);
        due("stakes to", x.pool(0, 0), 300);
    }
}
