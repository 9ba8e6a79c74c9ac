/** One method for each promise: ordinary calls, the edges that the document names, and the refusals in their order. */
public final class PromiseRuns {
    private static final int NONE = -1, UNKNOWN = -100001, OUTSIDE = -100002, NOT = -100003, FULL = -100004;
    private static int wrong = 0;
    private static int asked = 0;
    private static String promise = "";

    private static void due(String call, long got, long want) {
        asked++;
        if (got != want) {
            wrong++;
            System.out.println(promise + ": " + call + " answered " + got + ", due is " + want);
        }
    }

    /** Feeds a text and makes it a RULE. */
    private static int enact(SilkHouse x, String text, int day) {
        feed(x, text);
        return x.rule(day);
    }

    private static int feed(SilkHouse x, String text) {
        int length = x.count(9);
        for (int at = 0; at < text.length(); at += 8) {
            int n = Math.min(8, text.length() - at);
            long bytes = 0;
            for (int k = 0; k < n; k++) {
                bytes = bytes << 8 | text.charAt(at + k);
            }
            length = x.feed(n, bytes);
        }
        return length;
    }

    private static SilkHouse withBale(int gross) {
        SilkHouse x = new SilkHouse();
        x.bale(gross);
        return x;
    }

    /** So many SKEINS of 1000 with one dry weight, told of BALE 0. */
    private static void draw(SilkHouse x, int look, int times, int dry) {
        for (int k = 0; k < times; k++) {
            x.skein(0, look, 0, 1000, dry, look, look);
        }
    }

    private static void newObject() {
        SilkHouse x = new SilkHouse();
        for (int what = 0; what <= 10; what++) {
            due("count(" + what + ")", x.count(what), 0);
        }
        due("fault()", x.fault(), NONE);
        due("state(0, 0)", x.state(0, 0), UNKNOWN);
        due("paper(0, 0)", x.paper(0, 0), UNKNOWN);
        due("order(3, -1)", x.order(3, -1), 0);
        due("houses(2)", x.houses(2), NOT);
        due("stood(0, 0)", x.stood(0, 0), 0);
    }

    private static void go() {
        SilkHouse x = new SilkHouse();
        due("go(0)", x.go(0), 0);
        due("go(999)", x.go(999), 999);
        due("go(1000)", x.go(1000), OUTSIDE);
        due("go(-1)", x.go(-1), OUTSIDE);
        due("go(999)", x.go(999), 1998);
        due("go(999)", x.go(999), 2997);
        due("go(4)", x.go(4), NOT);
        due("count(0)", x.count(0), 2997);
        due("go(3)", x.go(3), 3000);
        due("go(1)", x.go(1), NOT);
        due("go(0)", x.go(0), 3000);
        due("go(1000)", x.go(1000), OUTSIDE);
        due("go(least)", x.go(Integer.MIN_VALUE), OUTSIDE);
        due("go(most)", x.go(Integer.MAX_VALUE), OUTSIDE);
    }

    private static void bale() {
        SilkHouse x = new SilkHouse();
        due("bale(0)", x.bale(0), OUTSIDE);
        due("bale(100000)", x.bale(100000), OUTSIDE);
        due("count(1)", x.count(1), 0);
        due("bale(1)", x.bale(1), 0);
        due("bale(99999)", x.bale(99999), 1);
        for (int b = 2; b < 10; b++) {
            due("bale(5)", x.bale(5), b);
        }
        due("bale(5)", x.bale(5), FULL);
        due("bale(0)", x.bale(0), OUTSIDE);
        due("count(1)", x.count(1), 10);
    }

    private static void skein() {
        SilkHouse x = withBale(100);
        due("UNKNOWN first", x.skein(1, 3, 0, 1000, 900, 0, 0), UNKNOWN);
        due("UNKNOWN first", x.skein(-1, 0, 0, 1000, 900, 0, 0), UNKNOWN);
        due("look 3", x.skein(0, 3, 0, 1000, 900, 0, 0), OUTSIDE);
        due("look -1", x.skein(0, -1, 0, 1000, 900, 0, 0), OUTSIDE);
        due("scale 4", x.skein(0, 0, 4, 1000, 900, 0, 0), OUTSIDE);
        due("scale -1", x.skein(0, 0, -1, 1000, 900, 0, 0), OUTSIDE);
        due("raw 99", x.skein(0, 0, 0, 99, 90, 0, 0), OUTSIDE);
        due("raw 10000", x.skein(0, 0, 0, 10000, 9000, 0, 0), OUTSIDE);
        due("dry 49", x.skein(0, 0, 0, 1000, 49, 0, 0), OUTSIDE);
        due("dry above raw", x.skein(0, 0, 0, 1000, 1001, 0, 0), OUTSIDE);
        due("oven 4", x.skein(0, 0, 0, 1000, 900, 4, 0), OUTSIDE);
        due("oven -1", x.skein(0, 0, 0, 1000, 900, -1, 0), OUTSIDE);
        due("hand 8", x.skein(0, 0, 0, 1000, 900, 0, 8), OUTSIDE);
        due("hand -1", x.skein(0, 0, 0, 1000, 900, 0, -1), OUTSIDE);
        due("count(2)", x.count(2), 0);
        due("least of all", x.skein(0, 0, 0, 100, 50, 0, 0), 0);
        due("most of all", x.skein(0, 2, 3, 9999, 9999, 3, 7), 1);
        for (int k = 1; k < 12; k++) {
            due("one of LOOK 0", x.skein(0, 0, 0, 1000, 900, 0, 0), k + 1);
        }
        due("a thirteenth", x.skein(0, 0, 0, 1000, 900, 0, 0), FULL);
        due("OUTSIDE first", x.skein(0, 0, 0, 1000, 900, 0, 8), OUTSIDE);
        due("lose(0)", x.lose(0), 1);
        due("LOST ones with them", x.skein(0, 0, 0, 1000, 900, 0, 0), FULL);
        due("another LOOK", x.skein(0, 1, 0, 1000, 900, 0, 0), 13);
        x.bale(7);
        x.bale(8);
        due("another BALE", x.skein(1, 0, 0, 1000, 900, 0, 0), 14);
        for (int k = 15; k < 60; k++) {
            int of = k - 15;
            due("one of many", x.skein(1 + of / 24, of / 8 % 3, 0, 1000, 900, 0, 0), k);
        }
        due("a sixty-first", x.skein(2, 2, 0, 1000, 900, 0, 0), FULL);
        due("count(2)", x.count(2), 60);
    }

    private static void lose() {
        SilkHouse x = withBale(100);
        due("lose(0)", x.lose(0), UNKNOWN);
        due("lose(-1)", x.lose(-1), UNKNOWN);
        draw(x, 0, 2, 900);
        due("lose(2)", x.lose(2), UNKNOWN);
        x.go(4);
        due("lose(1)", x.lose(1), 1);
        due("lose(1)", x.lose(1), NOT);
        due("count(3)", x.count(3), 1);
        due("count(2)", x.count(2), 2);
        due("ratio(0, 0, 2)", x.ratio(0, 0, 2), 1);
        x.go(1);
        due("lose(1)", x.lose(1), NOT);
        due("told(1, 8)", x.told(1, 8), 4);
    }

    private static void told() {
        SilkHouse x = withBale(100);
        x.bale(200);
        x.go(9);
        x.skein(1, 2, 3, 4000, 3999, 1, 5);
        int[] row = {1, 2, 3, 4000, 3999, 1, 5, 9, NONE};
        for (int what = 0; what < row.length; what++) {
            due("told(0, " + what + ")", x.told(0, what), row[what]);
        }
        due("told(0, 9)", x.told(0, 9), OUTSIDE);
        due("told(0, -1)", x.told(0, -1), OUTSIDE);
        due("told(1, 9)", x.told(1, 9), UNKNOWN);
        due("told(-1, 0)", x.told(-1, 0), UNKNOWN);
        x.go(1);
        x.lose(0);
        due("told(0, 8)", x.told(0, 8), 10);
        due("told(0, 7)", x.told(0, 7), 9);
    }

    private static void test() {
        SilkHouse x = new SilkHouse();
        due("scale 4", x.test(4, 1, 1), OUTSIDE);
        due("scale -1", x.test(-1, 1, 1), OUTSIDE);
        due("shown 0", x.test(0, 0, 1), OUTSIDE);
        due("shown 10000", x.test(0, 10000, 1), OUTSIDE);
        due("weight 0", x.test(0, 1, 0), OUTSIDE);
        due("weight 10000", x.test(0, 1, 10000), OUTSIDE);
        for (int t = 1; t <= 30; t++) {
            due("test", x.test(t % 4, 9999, 1), t);
        }
        due("a thirty-first", x.test(0, 1, 1), FULL);
        due("OUTSIDE first", x.test(4, 1, 1), OUTSIDE);
        due("count(4)", x.count(4), 30);
    }

    private static void error() {
        SilkHouse x = new SilkHouse();
        due("none", x.error(0, 0, 0), 0);
        x.go(10);
        x.test(0, 103, 100);
        due("before one alone", x.error(0, 0, 0), 3);
        due("after one alone", x.error(0, 3000, 1), 3);
        due("another scale", x.error(1, 10, 0), 0);
        x.test(0, 95, 100);
        due("the later of one day", x.error(0, 10, 0), -5);
        due("before: the first one", x.error(0, 9, 1), 3);
        x.go(10);
        x.test(0, 101, 100);
        x.test(0, 109, 100);
        due("between, least", x.error(0, 15, 0), -5);
        due("between, greatest: the first after", x.error(0, 15, 1), 1);
        due("on the day itself", x.error(0, 20, 0), 9);
        due("as known now, of an earlier day", x.error(0, 19, 1), 1);
        due("scale 4", x.error(4, 0, 0), OUTSIDE);
        due("scale -1", x.error(-1, 0, 0), OUTSIDE);
        due("day 3001", x.error(0, 3001, 0), OUTSIDE);
        due("day -1", x.error(0, -1, 0), OUTSIDE);
        due("what 2", x.error(0, 0, 2), OUTSIDE);
        due("what -1", x.error(0, 0, -1), OUTSIDE);
        x.test(2, 1, 9999);
        due("far off", x.error(2, 0, 0), -9998);
    }

    private static void ratio() {
        SilkHouse x = withBale(100);
        due("of none", x.ratio(0, 0, 0), NOT);
        due("of none", x.ratio(0, 0, 1), NOT);
        due("how many", x.ratio(0, 0, 2), 0);
        due("UNKNOWN first", x.ratio(1, 3, 0), UNKNOWN);
        due("OUTSIDE before NOT", x.ratio(0, 0, 3), OUTSIDE);
        due("what -1", x.ratio(0, 0, -1), OUTSIDE);
        due("look 3", x.ratio(0, 3, 0), OUTSIDE);
        due("look -1", x.ratio(0, -1, 2), OUTSIDE);
        x.skein(0, 1, 0, 600, 400, 0, 0);
        x.skein(0, 1, 0, 300, 200, 0, 0);
        due("in least terms", x.ratio(0, 1, 0), 2);
        due("in least terms", x.ratio(0, 1, 1), 3);
        due("how many", x.ratio(0, 1, 2), 2);
        x.skein(0, 1, 0, 100, 100, 0, 0);
        due("all by all, no mean of ratios", x.ratio(0, 1, 0), 7);
        due("all by all, no mean of ratios", x.ratio(0, 1, 1), 10);
        x.lose(2);
        due("without LOST ones", x.ratio(0, 1, 0), 2);
        due("of another LOOK", x.ratio(0, 0, 0), NOT);
        x.lose(0);
        x.lose(1);
        due("all LOST", x.ratio(0, 1, 1), NOT);
    }

    private static void count() {
        SilkHouse x = withBale(1000);
        due("count(11)", x.count(11), OUTSIDE);
        due("count(-1)", x.count(-1), OUTSIDE);
        x.bale(5);
        x.bale(6);
        draw(x, 0, 3, 900);
        due("SETTLED: none", x.count(7), 0);
        draw(x, 1, 3, 900);
        due("SETTLED", x.count(7), 1);
        for (int k = 0; k < 6; k++) {
            x.skein(1, k / 3, 0, 1000, 900 - k / 3 * 50, 0, 0);
        }
        due("PARTED", x.count(8), 1);
        due("SETTLED", x.count(7), 1);
        x.certify(0);
        due("FEES", x.count(10), 10);
        enact(x, "let fee 3;", 1);
        x.go(1);
        x.undo(0);
        x.certify(0);
        due("FEES: each by its DAY, UNDONE ones too", x.count(10), 13);
        x.cut(1, 1, 998);
        due("CUTS have none", x.count(10), 13);
        enact(x, "let fee 100;", 0);
        due("RULES of a DAY are those that hold then", x.count(10), 103);
        due("count(5)", x.count(5), 2);
        due("count(6)", x.count(6), 4);
        due("count(0)", x.count(0), 1);
        due("count(2)", x.count(2), 12);
    }

    private static void feeding() {
        SilkHouse x = new SilkHouse();
        due("n 0", x.feed(0, 0), OUTSIDE);
        due("n 9", x.feed(9, 0), OUTSIDE);
        due("n -1", x.feed(-1, 0), OUTSIDE);
        due("the lower bytes alone", x.feed(3, 0x7a7a7a7a7a6c6574L), 3);
        due("the highest of these first", x.feed(8, 0x2077617465722039L), 11);
        due("one byte", x.feed(1, ';'), 12);
        due("rule(0)", x.rule(0), 0);
        due("force(0, 0)", x.force(0, 0), 9);
        for (int k = 1; k <= 24; k++) {
            due("feed", x.feed(8, 0x2020202020202020L), 8 * k);
        }
        due("feed", x.feed(7, 0x2020202020202020L), 199);
        due("no room for two", x.feed(2, 0), FULL);
        due("OUTSIDE first", x.feed(9, 0), OUTSIDE);
        due("count(9)", x.count(9), 199);
        due("just room", x.feed(1, ' '), 200);
        due("no room", x.feed(1, ' '), FULL);
        due("blanks alone are a RULE", x.rule(0), 1);
        due("count(9)", x.count(9), 0);
    }

    private static void refuse(String text, int kind, int at) {
        SilkHouse x = new SilkHouse();
        due("rule of [" + text + "]", enact(x, text, 0), -10 - kind);
        due("fault of [" + text + "]", x.fault(), at);
        due("count(9)", x.count(9), 0);
        due("count(5)", x.count(5), 0);
    }

    private static void accept(String text) {
        SilkHouse x = new SilkHouse();
        due("rule of [" + text + "]", enact(x, text, 0), 0);
        due("fault of [" + text + "]", x.fault(), NONE);
    }

    private static void rule() {
        accept("");
        accept("   ");
        accept("let water 0;let water 300;let skeins 1;let skeins 9;let part 0;let part 200;");
        accept("let looks 1;let looks 2;let fee 0;let fee 999;take mean;take least;take middle;");
        accept("let water0005;");
        accept("  let   water   5  ;  ");
        accept("name fine10to13;name a 0 to 9999;name eightlet 0001 to 0002;");
        accept("name let 1 to 2;name to 1 to 2;");
        accept("take mean;take mean;take mean;take mean;take mean;take mean;"
            + "take mean;take mean;take mean;take mean;take mean;take mean; ");
        SilkHouse x = new SilkHouse();
        feed(x, "take least;");
        due("day 3001", x.rule(3001), OUTSIDE);
        due("day -1", x.rule(-1), OUTSIDE);
        due("THE TEXT stays", x.count(9), 11);
        due("rule(3000)", x.rule(3000), 0);
        for (int r = 1; r < 8; r++) {
            due("an empty RULE", x.rule(0), r);
        }
        feed(x, "take");
        due("an eighth", x.rule(0), FULL);
        due("OUTSIDE first", x.rule(3001), OUTSIDE);
        due("THE TEXT stays", x.count(9), 4);
        due("count(5)", x.count(5), 8);
        SilkHouse y = new SilkHouse();
        y.rule(0);
        due("a strike of one that there is", enact(y, "strike 0;", 0), 1);
        due("of itself", enact(y, "strike 2;", 0), -13);
        due("of the one before", enact(y, "strike1;", 0), 2);
    }

    private static void fault() {
        refuse("x", 1, 0);
        refuse(";", 1, 0);
        refuse("  5", 1, 2);
        refuse("Let water 5;", 1, 0);
        refuse("let", 1, 3);
        refuse("let   ", 1, 6);
        refuse("letwater 5;", 1, 0);
        refuse("let fog 5;", 1, 4);
        refuse("let waters 5;", 1, 4);
        refuse("let 5;", 1, 4);
        refuse("let water;", 1, 9);
        refuse("let water x;", 1, 10);
        refuse("let water 5", 1, 11);
        refuse("let water 5 ", 1, 12);
        refuse("let water 5 6;", 1, 12);
        refuse("let water 5let fee 5;", 1, 11);
        refuse("let water 5;;", 1, 12);
        refuse("let wat\u00e9r 5;", 1, 4);
        refuse("let water\u00e9 5;", 1, 9);
        refuse("let water\t5;", 1, 9);
        refuse("let water -5;", 1, 10);
        refuse("let water 12345678901234567890;", 2, 10);
        refuse("let water 00001;", 2, 10);
        refuse("let water 301;", 2, 10);
        refuse("let skeins 0;", 2, 11);
        refuse("let skeins 10;", 2, 11);
        refuse("let part 201;", 2, 9);
        refuse("let looks 0;", 2, 10);
        refuse("let looks 3;", 2, 10);
        refuse("let fee 1000;", 2, 8);
        refuse("let fee 1000", 2, 8);
        refuse("take;", 1, 4);
        refuse("take the;", 1, 5);
        refuse("take means;", 1, 5);
        refuse("take least 5;", 1, 11);
        refuse("name 5 5 to 6;", 1, 5);
        refuse("name ninelette 5 to 6;", 4, 5);
        refuse("name ninelette", 4, 5);
        refuse("name a to 6;", 1, 7);
        refuse("name a b 5 to 6;", 1, 7);
        refuse("name a 5 6;", 1, 9);
        refuse("name a 5 two 6;", 1, 9);
        refuse("name a 5 to;", 1, 11);
        refuse("name a 5 to 5;", 2, 12);
        refuse("name a 5 to 4;", 2, 12);
        refuse("name a 10000 to 4;", 2, 7);
        refuse("name a 5 to 10000;", 2, 12);
        refuse("name a 9999 to 9999;", 2, 15);
        refuse("strike;", 1, 6);
        refuse("strike 0;", 3, 7);
        refuse("strike 0", 3, 7);
        refuse("strike 10000;", 2, 7);
        String twelve = "let fee 1;let fee 1;let fee 1;let fee 1;let fee 1;let fee 1;"
            + "let fee 1;let fee 1;let fee 1;let fee 1;let fee 1;let fee 1;";
        refuse(twelve + "  let fee 1000;", 5, 122);
        refuse(twelve + "strike", 5, 120);
        refuse(twelve + "lets", 1, 120);
        refuse(twelve + ";", 1, 120);
        refuse(twelve + "1", 1, 120);
        SilkHouse x = new SilkHouse();
        due("none yet", x.fault(), NONE);
        enact(x, "take no;", 0);
        due("of the latest", x.fault(), 5);
        due("refused otherwise", x.rule(3001), OUTSIDE);
        due("that one does not count", x.fault(), 5);
        due("a good one", x.rule(0), 0);
        due("has none", x.fault(), NONE);
    }

    private static void force() {
        SilkHouse x = new SilkHouse();
        int[] first = {110, 3, 5, 2, 10, 0};
        for (int name = 0; name < 6; name++) {
            due("at first", x.force(name, 0), first[name]);
        }
        due("name 6", x.force(6, 0), OUTSIDE);
        due("name -1", x.force(-1, 0), OUTSIDE);
        due("day 3001", x.force(0, 3001), OUTSIDE);
        due("day -1", x.force(0, -1), OUTSIDE);
        enact(x, "let water 1;let water 2;take middle;", 10);
        due("before its DAY", x.force(0, 9), 110);
        due("the last clause rules", x.force(0, 10), 2);
        due("way", x.force(5, 10), 2);
        enact(x, "let water 3;take least;", 5);
        due("an earlier DAY told later", x.force(0, 7), 3);
        due("by DAYS first", x.force(0, 10), 2);
        enact(x, "let water 4;", 10);
        due("then by numbers", x.force(0, 10), 4);
        due("a name of its own", x.force(5, 3000), 2);
        enact(x, "strike 2;", 20);
        due("before the strike", x.force(0, 19), 4);
        due("struck", x.force(0, 20), 2);
        enact(x, "strike 3;let fee 8;", 30);
        due("the strike is struck", x.force(0, 30), 4);
        due("still struck before", x.force(0, 29), 2);
        enact(x, "strike 4;", 30);
        due("the strike of the strike is struck", x.force(0, 30), 2);
        due("with all its clauses", x.force(4, 30), 10);
        enact(x, "strike 0;strike 1;let skeins 9;let part 200;let looks 1;let fee 999;", 0);
        due("all struck from 0 on", x.force(0, 10), 4);
        due("all struck from 0 on", x.force(0, 9), 110);
        due("all struck from 0 on", x.force(5, 3000), 0);
        due("skeins", x.force(1, 0), 9);
        due("part", x.force(2, 0), 200);
        due("looks", x.force(3, 0), 1);
        due("fee", x.force(4, 0), 999);
    }

    private static void letter() {
        SilkHouse x = new SilkHouse();
        due("no RULE", x.letter(0, 0), UNKNOWN);
        enact(x, "take mean;name eightlet 1 to 2;", 7);
        enact(x, "name ab 1 to 2;name ninelette", 7);
        enact(x, "name c 1 to 2;", 7);
        due("no name", x.letter(0, 0), NONE);
        due("first", x.letter(1, 0), 'e');
        due("last", x.letter(1, 7), 't');
        due("behind it", x.letter(1, 8), NONE);
        due("far behind it", x.letter(1, Integer.MAX_VALUE), NONE);
        due("ahead of it", x.letter(1, -1), NONE);
        due("no such clause", x.letter(2, 0), UNKNOWN);
        due("no such clause", x.letter(99, 0), UNKNOWN);
        due("of another RULE", x.letter(100, 0), 'c');
        due("nothing of a text with a FAULT", x.letter(100, 1), NONE);
        due("no such clause", x.letter(101, 0), UNKNOWN);
        due("no such RULE", x.letter(200, 0), UNKNOWN);
        due("below 0", x.letter(-1, 0), UNKNOWN);
        due("below 0", x.letter(-100, 0), UNKNOWN);
        due("far below 0", x.letter(Integer.MIN_VALUE, 0), UNKNOWN);
        enact(x, "strike 0;", 0);
        due("of one that is struck", x.letter(1, 1), 'i');
        due("no name, as far as a WORD goes", x.letter(0, 7), NONE);
        due("not the next one's", enact(x, "name abcdefgh 1 to 2;name ijklmnop 1 to 2;", 0), 3);
        due("not the next one's", x.letter(300, 8), NONE);
        due("not the one's before", x.letter(301, -1), NONE);
    }

    private static void state() {
        SilkHouse x = withBale(1000);
        due("UNKNOWN first", x.state(1, 1), UNKNOWN);
        due("after NOW", x.state(0, 1), OUTSIDE);
        due("day -1", x.state(0, -1), OUTSIDE);
        due("WAITING", x.state(0, 0), 0);
        draw(x, 0, 3, 900);
        draw(x, 1, 2, 905);
        due("WAITING for LOOK 1", x.state(0, 0), 0);
        draw(x, 1, 1, 905);
        due("a part of 5 is not above 5", x.state(0, 0), 1);
        x.go(1);
        x.skein(0, 1, 0, 1000, 906, 0, 0);
        due("just above", x.state(0, 1), 2);
        due("as it was", x.state(0, 0), 1);
        draw(x, 2, 2, 800);
        due("PARTED till LOOK 2 is FULL", x.state(0, 1), 2);
        draw(x, 2, 1, 800);
        due("SETTLED by three", x.state(0, 1), 1);
        x.go(1);
        x.lose(0);
        due("LOST from today on", x.state(0, 2), 0);
        due("not yet LOST", x.state(0, 1), 1);
        enact(x, "let looks 1;let skeins 2;", 2);
        due("looks 1", x.state(0, 2), 1);
        due("RULES of that DAY", x.state(0, 1), 1);
        x.lose(1);
        due("looks 1, one left", x.state(0, 2), 0);
        SilkHouse y = withBale(1000);
        draw(y, 1, 3, 900);
        draw(y, 2, 3, 900);
        due("LOOK 0 is not FULL", y.state(0, 0), 0);
        enact(y, "let part 0;let skeins 1;", 0);
        draw(y, 0, 1, 900);
        due("alike with part 0", y.state(0, 0), 1);
        y.skein(0, 0, 0, 9999, 8999, 0, 0);
        due("apart, and LOOK 2 is FULL", y.state(0, 0), 1);
        y.lose(6);
        y.lose(3);
        y.lose(4);
        y.lose(5);
        due("never so little apart", y.state(0, 0), 2);
    }

    private static void lawfulIs(SilkHouse x, int day, long up, long low) {
        due("lawful(0, " + day + ", 0)", x.lawful(0, day, 0), up);
        due("lawful(0, " + day + ", 1)", x.lawful(0, day, 1), low);
    }

    private static SilkHouse threeLooks(String rule, int a, int b, int c) {
        SilkHouse x = withBale(1000);
        enact(x, "let skeins 1;let water 0;" + rule, 0);
        draw(x, 0, 1, a);
        draw(x, 1, 1, b);
        draw(x, 2, 1, c);
        return x;
    }

    private static void lawful() {
        SilkHouse x = withBale(1000);
        due("UNKNOWN first", x.lawful(1, 5, 5), UNKNOWN);
        due("OUTSIDE before NOT", x.lawful(0, 1, 0), OUTSIDE);
        due("what 2", x.lawful(0, 0, 2), OUTSIDE);
        due("what -1", x.lawful(0, 0, -1), OUTSIDE);
        due("WAITING", x.lawful(0, 0, 0), NOT);
        draw(x, 0, 3, 900);
        draw(x, 1, 3, 904);
        lawfulIs(x, 0, 50061, 50);
        enact(x, "take least;", 1);
        enact(x, "take middle;let water 0;", 2);
        enact(x, "let looks 1;let water 300;", 3);
        x.go(3);
        lawfulIs(x, 1, 999, 1);
        lawfulIs(x, 2, 902, 1);
        lawfulIs(x, 3, 1170, 1);
        lawfulIs(x, 0, 50061, 50);
        lawfulIs(threeLooks("", 900, 920, 911), 0, 1831, 2);
        lawfulIs(threeLooks("", 900, 920, 908), 0, 904, 1);
        lawfulIs(threeLooks("", 900, 908, 930), 0, 904, 1);
        lawfulIs(threeLooks("", 900, 920, 910), 0, 905, 1);
        lawfulIs(threeLooks("", 900, 910, 920), 0, 905, 1);
        lawfulIs(threeLooks("", 910, 900, 920), 0, 905, 1);
        lawfulIs(threeLooks("take least;", 910, 900, 920), 0, 900, 1);
        lawfulIs(threeLooks("take least;", 900, 910, 920), 0, 900, 1);
        lawfulIs(threeLooks("take least;", 910, 930, 900), 0, 900, 1);
        lawfulIs(threeLooks("take middle;", 910, 900, 920), 0, 910, 1);
        lawfulIs(threeLooks("take middle;", 900, 910, 920), 0, 910, 1);
        lawfulIs(threeLooks("take middle;", 900, 920, 910), 0, 910, 1);
        lawfulIs(threeLooks("take middle;", 920, 900, 910), 0, 910, 1);
        lawfulIs(threeLooks("take middle;", 920, 910, 900), 0, 910, 1);
        lawfulIs(threeLooks("take middle;", 920, 900, 920), 0, 920, 1);
        lawfulIs(threeLooks("take middle;", 900, 904, 100), 0, 902, 1);
        SilkHouse parted = threeLooks("let skeins 1;", 900, 920, 910);
        parted.lose(2);
        due("PARTED", parted.lawful(0, 0, 0), NOT);
        SilkHouse big = withBale(99999);
        enact(big, "let water 300;let part 200;", 0);
        for (int k = 0; k < 12; k++) {
            big.skein(0, 0, 0, 9999 - k, 9998 - k, 0, 0);
            big.skein(0, 1, 0, 9998 - k, 9995 - k, 0, 0);
        }
        // 119910 of 119922, 119874 of 119910
        java.math.BigInteger up = java.math.BigInteger.valueOf(119910L * 119910 + 119874L * 119922)
            .multiply(java.math.BigInteger.valueOf(99999L * 1300));
        java.math.BigInteger low = java.math.BigInteger.valueOf(2L * 119922 * 119910 * 1000);
        lawfulIs(big, 0, up.divide(up.gcd(low)).longValueExact(), low.divide(up.gcd(low)).longValueExact());
    }

    private static void span() {
        SilkHouse x = withBale(1000);
        due("UNKNOWN first", x.span(1, 4), UNKNOWN);
        due("OUTSIDE before NOT", x.span(0, 4), OUTSIDE);
        due("what -1", x.span(0, -1), OUTSIDE);
        due("no SKEINS", x.span(0, 0), NOT);
        x.skein(0, 1, 0, 1000, 900, 0, 0);
        due("of LOOK 0 alone", x.span(0, 0), NOT);
        enact(x, "let water 0;", 0);
        x.test(0, 200, 100);
        x.skein(0, 0, 0, 1000, 900, 0, 0);
        due("an ERROR of 100 counts as 40: least", x.span(0, 0), 5375);
        due("an ERROR of 100 counts as 40: least", x.span(0, 1), 6);
        due("an ERROR of 100 counts as 40: greatest", x.span(0, 2), 5375);
        due("an ERROR of 100 counts as 40: greatest", x.span(0, 3), 6);
        x.go(1);
        x.test(0, 50, 100);
        x.lose(1);
        x.skein(0, 0, 1, 1000, 900, 0, 0);
        due("no TESTS of its SCALE", x.span(0, 0), 900);
        due("no TESTS of its SCALE", x.span(0, 2), 900);
        x.lose(2);
        x.skein(0, 0, 0, 1000, 900, 0, 0);
        due("an ERROR of -50 counts as -40", x.span(0, 0), upper(940000, 1040));
        due("an ERROR of -50 counts as -40", x.span(0, 1), lower(940000, 1040));
        x.go(1);
        x.test(0, 107, 100);
        due("least by the greatest ERROR", x.span(0, 0), upper(893000, 993));
        due("least by the greatest ERROR", x.span(0, 1), lower(893000, 993));
        due("greatest by the least ERROR", x.span(0, 2), upper(940000, 1040));
        due("greatest by the least ERROR", x.span(0, 3), lower(940000, 1040));
        enact(x, "let water 100;", 2);
        due("with the water of NOW", x.span(0, 0), upper(982300, 993));
        x.skein(0, 1, 0, 1000, 700, 0, 0);
        x.skein(0, 2, 0, 1000, 700, 0, 0);
        due("LOOK 0 alone", x.span(0, 0), upper(982300, 993));
        due("LOOK 0 alone", x.span(0, 1), lower(982300, 993));
        x.lose(3);
        due("all LOST", x.span(0, 3), NOT);
    }

    private static long common(long a, long b) {
        return b == 0 ? a : common(b, a % b);
    }

    private static long upper(long up, long low) {
        return up / common(up, low);
    }

    private static long lower(long up, long low) {
        return low / common(up, low);
    }

    private static void cause() {
        SilkHouse x = withBale(1000);
        due("UNKNOWN", x.cause(1, 0), UNKNOWN);
        due("no SKEINS", x.cause(0, 0), NOT);
        x.skein(0, 0, 0, 1000, 900, 0, 0);
        due("LOOK 1 has none", x.cause(0, NONE), NOT);
        x.skein(0, 0, 0, 1000, 900, 0, 1);
        x.skein(0, 1, 0, 1000, 905, 1, 2);
        due("they do not PART", x.cause(0, NONE), NOT);
        x.skein(0, 1, 0, 1000, 800, 1, 2);
        x.skein(0, 2, 0, 1000, 800, 1, 2);
        due("OVEN 1, HAND 2 have all of LOOK 1", x.cause(0, NONE), 1);
        due("without one SKEIN", x.cause(0, 0), 103);
        due("a second one", x.cause(0, 1), NONE);
        due("i -2", x.cause(0, -2), NONE);
        x.skein(0, 1, 0, 1000, 801, 1, 2);
        due("none of one SKEIN", x.cause(0, NONE), 0);
        due("none", x.cause(0, 0), NONE);
        x.skein(0, 1, 0, 1000, 901, 2, 7);
        due("OVEN, HAND", x.cause(0, NONE), 2);
        due("OVENS first", x.cause(0, 0), 1);
        due("HANDS then", x.cause(0, 1), 12);
        x.lose(5);
        due("OVEN, HAND, SKEIN", x.cause(0, NONE), 3);
        due("SKEINS last", x.cause(0, 2), 103);
        x.lose(2);
        due("an OVEN with one SKEIN is none", x.cause(0, NONE), 1);
        due("but its SKEIN is", x.cause(0, 0), 103);
        enact(x, "let part 100;", 0);
        due("part of NOW", x.cause(0, NONE), NOT);
        SilkHouse y = withBale(1000);
        y.skein(0, 0, 0, 1000, 900, 3, 7);
        y.skein(0, 0, 0, 1000, 500, 0, 0);
        y.skein(0, 1, 0, 1000, 900, 1, 1);
        y.skein(0, 1, 0, 1000, 400, 0, 2);
        due("of both LOOKS together", y.cause(0, NONE), 1);
        due("of both LOOKS together", y.cause(0, 0), 0);
        y.go(1);
        y.lose(3);
        due("as all is NOW", y.cause(0, 0), 101);
    }

    private static void odd() {
        SilkHouse x = withBale(1000);
        due("UNKNOWN first", x.odd(1, 3), UNKNOWN);
        due("look 3", x.odd(0, 3), OUTSIDE);
        due("look -1", x.odd(0, -1), OUTSIDE);
        due("none", x.odd(0, 0), 0);
        x.skein(0, 2, 0, 1000, 900, 0, 0);
        x.skein(0, 2, 0, 2000, 1810, 0, 0);
        due("5 is not above 5", x.odd(0, 2), 0);
        x.skein(0, 2, 0, 1000, 906, 0, 0);
        due("6 is", x.odd(0, 2), 1);
        x.skein(0, 2, 0, 1000, 100, 0, 0);
        due("with each other one", x.odd(0, 2), 4);
        due("another LOOK", x.odd(0, 0), 0);
        enact(x, "let part 200;", 1);
        x.go(1);
        due("part of NOW", x.odd(0, 2), 3);
        x.lose(0);
        due("without LOST ones", x.odd(0, 2), 2);
    }

    private static void needed() {
        SilkHouse x = withBale(1000);
        due("UNKNOWN first", x.needed(1, 0), UNKNOWN);
        due("risk 0", x.needed(0, 0), OUTSIDE);
        due("risk 101", x.needed(0, 101), OUTSIDE);
        due("no SKEINS", x.needed(0, 100), NONE);
        draw(x, 0, 1, 900);
        due("one SKEIN", x.needed(0, 100), NONE);
        draw(x, 0, 1, 800);
        due("all of them", x.needed(0, 1), 2);
        draw(x, 0, 2, 850);
        // All together 850: of the six pairs four are 25 off, of the four threes two are 16.7 off.
        due("four of six", x.needed(0, 67), 2);
        due("four of six are too many", x.needed(0, 66), 3);
        due("two of four", x.needed(0, 50), 3);
        due("two of four are too many", x.needed(0, 49), 4);
        enact(x, "let part 25;", 1);
        x.go(1);
        due("25 is not further than 25", x.needed(0, 1), 2);
        enact(x, "let part 20;", 2);
        x.go(1);
        due("threes are near", x.needed(0, 1), 3);
        x.lose(1);
        due("without LOST ones", x.needed(0, 1), 2);
        SilkHouse y = withBale(1000);
        draw(y, 0, 11, 900);
        draw(y, 0, 1, 999);
        // All together 908.25: all without the heavy one are 8.25 off, those with it 99 / n - 8.25.
        due("eight: four in twelve are without it", y.needed(0, 50), 8);
        due("nine: three in twelve", y.needed(0, 33), 9);
        due("risk 100", y.needed(0, 100), 2);
        enact(y, "let part 10;", 0);
        // Now only those with it are too far off, till n is 5.
        due("2 in 12 are 16.7 in 100", y.needed(0, 17), 2);
        due("2 in 12 are 16.7 in 100", y.needed(0, 16), 6);
    }

    private static void thread() {
        SilkHouse x = withBale(1000);
        due("UNKNOWN first", x.thread(1, 0), UNKNOWN);
        due("weight 0", x.thread(0, 0), OUTSIDE);
        due("weight 1000", x.thread(0, 1000), OUTSIDE);
        x.bale(5);
        for (int t = 1; t <= 12; t++) {
            due("thread", x.thread(0, t == 1 ? 999 : 1), t);
        }
        due("a thirteenth", x.thread(0, 1), FULL);
        due("OUTSIDE first", x.thread(0, 0), OUTSIDE);
        due("of another BALE", x.thread(1, 1), 1);
        due("size(0, 0)", x.size(0, 0), 505);
        due("size(0, 1)", x.size(0, 1), 3);
    }

    private static void size() {
        SilkHouse x = withBale(1000);
        due("UNKNOWN first", x.size(1, 4), UNKNOWN);
        due("OUTSIDE", x.size(0, 4), OUTSIDE);
        due("OUTSIDE", x.size(0, -1), OUTSIDE);
        for (int what = 0; what < 4; what++) {
            due("without THREADS", x.size(0, what), NONE);
        }
        x.thread(0, 7);
        int[] one = {14, 1, 0, 1};
        for (int what = 0; what < 4; what++) {
            due("of one", x.size(0, what), one[what]);
        }
        x.thread(0, 8);
        x.thread(0, 8);
        int[] three = {46, 3, 8, 9};
        for (int what = 0; what < 4; what++) {
            due("of three", x.size(0, what), three[what]);
        }
        SilkHouse y = withBale(1);
        for (int t = 0; t < 12; t++) {
            y.thread(0, t < 6 ? 1 : 999);
        }
        due("the greatest", y.size(0, 2), 998 * 998);
    }

    private static void named() {
        SilkHouse x = withBale(1000);
        due("UNKNOWN first", x.named(1, 3001), UNKNOWN);
        due("day 3001", x.named(0, 3001), OUTSIDE);
        due("day -1", x.named(0, -1), OUTSIDE);
        due("no THREADS", x.named(0, 0), NONE);
        enact(x, "name low 10 to 21;take mean;name mid 20 to 30;name up 22 to 40;", 5);
        x.thread(0, 10);
        due("before its DAY", x.named(0, 4), NONE);
        due("from the first, the last that fits", x.named(0, 5), 2);
        x.thread(0, 12);
        due("from its first NUMBER on", x.named(0, 3000), 3);
        x.thread(0, 10);
        due("MEAN 64/3 lies below 22", x.named(0, 3000), 2);
        SilkHouse y = withBale(1000);
        y.thread(0, 10);
        enact(y, "name a 10 to 20;", 0);
        due("below its second", y.named(0, 0), NONE);
        enact(y, "name b 20 to 21;name c 0 to 9999;", 10);
        enact(y, "name d 19 to 21;", 5);
        due("by DAYS", y.named(0, 10), 101);
        due("by DAYS", y.named(0, 9), 200);
        enact(y, "name e 19 to 21;", 10);
        due("then numbers", y.named(0, 10), 300);
        enact(y, "strike 3;strike 1;", 11);
        due("struck ones count no more", y.named(0, 11), 200);
        y.thread(0, 11);
        y.thread(0, 10);
        due("a MEAN between whole numbers", y.named(0, 11), 200);
    }

    private static void turns() {
        SilkHouse x = withBale(1000);
        due("UNKNOWN first", x.turns(1, 1000), UNKNOWN);
        due("1000", x.turns(0, 1000), OUTSIDE);
        due("-1", x.turns(0, -1), OUTSIDE);
        for (int t = 1; t <= 8; t++) {
            due("turns", x.turns(0, t == 1 ? 0 : 999), t);
        }
        due("a ninth", x.turns(0, 5), FULL);
        due("OUTSIDE first", x.turns(0, 1000), OUTSIDE);
        x.bale(1);
        due("of another BALE", x.turns(1, 5), 1);
    }

    private static void twist() {
        SilkHouse x = withBale(1000);
        x.bale(5);
        due("UNKNOWN", x.twist(2), UNKNOWN);
        due("UNKNOWN", x.twist(-1), UNKNOWN);
        due("none", x.twist(0), NONE);
        int[] told = {50, 0, 999, 40, 60, 45, 45, 1};
        int[] middle = {50, 0, 50, 40, 50, 45, 45, 45};
        for (int t = 0; t < told.length; t++) {
            x.turns(0, told[t]);
            due("twist of " + (t + 1), x.twist(0), middle[t]);
        }
        due("of another BALE", x.twist(1), NONE);
    }

    private static void burnt() {
        SilkHouse x = withBale(1000);
        due("UNKNOWN first", x.burnt(1, 2, 0, 0), UNKNOWN);
        due("what 2", x.burnt(0, 2, 0, 0), OUTSIDE);
        due("what -1", x.burnt(0, -1, 0, 0), OUTSIDE);
        due("low -1", x.burnt(0, 0, -1, 0), OUTSIDE);
        due("high 1000", x.burnt(0, 0, 0, 1000), OUTSIDE);
        due("low above high", x.burnt(0, 0, 6, 5), OUTSIDE);
        due("low = high", x.burnt(0, 0, 5, 5), 1);
        due("0 to 999", x.burnt(0, 1, 0, 999), 1);
        due("cheat", x.cheat(0, 4, 0, 999), 1);
        due("told again", x.burnt(0, 0, 3, 5), 1);
        due("the latest counts", x.cheat(0, 3, 0, 3), 0);
        due("refused", x.burnt(0, 0, 900, 1000), OUTSIDE);
        due("it changes nothing", x.cheat(0, 3, 0, 3), 0);
    }

    private static void cheat() {
        SilkHouse x = withBale(1000);
        x.bale(5);
        due("UNKNOWN first", x.cheat(2, 1000, 0, 0), UNKNOWN);
        due("g 1000", x.cheat(0, 1000, 0, 0), OUTSIDE);
        due("a 1000", x.cheat(0, 0, 1000, 0), OUTSIDE);
        due("w 1000", x.cheat(0, 0, 0, 1000), OUTSIDE);
        due("g -1", x.cheat(0, -1, 0, 0), OUTSIDE);
        due("a -1", x.cheat(0, 0, -1, 0), OUTSIDE);
        due("w -1", x.cheat(0, 0, 0, -1), OUTSIDE);
        due("nothing told", x.cheat(0, 0, 0, 0), 0);
        x.skein(0, 0, 0, 1000, 900, 0, 0);
        x.skein(0, 1, 0, 1000, 100, 0, 0);
        due("LOSS of LOOK 0", x.cheat(0, 0, 0, 99), 4);
        due("LOSS of LOOK 0", x.cheat(0, 0, 0, 100), 0);
        x.burnt(0, 0, 30, 999);
        x.burnt(0, 1, 20, 999);
        due("at the limits", x.cheat(0, 30, 20, 150), 0);
        due("GUM", x.cheat(0, 29, 20, 150), 1);
        due("ASH", x.cheat(0, 30, 19, 150), 2);
        due("together", x.cheat(0, 30, 20, 149), 4);
        due("all", x.cheat(0, 0, 0, 0), 7);
        due("of another BALE", x.cheat(1, 0, 0, 0), 0);
        x.skein(0, 0, 0, 1000, 901, 0, 0);
        due("a LOSS of 99.5 is 99", x.cheat(0, 30, 20, 149), 0);
        due("a LOSS of 99.5 is 99", x.cheat(0, 30, 20, 148), 4);
        x.lose(0);
        x.lose(2);
        due("all LOST: no LOSS", x.cheat(0, 30, 20, 50), 0);
    }

    private static void load() {
        SilkHouse x = new SilkHouse();
        due("0", x.load(0), OUTSIDE);
        due("1000", x.load(1000), OUTSIDE);
        for (int k = 1; k <= 8; k++) {
            due("load", x.load(k % 2 == 0 ? 1 : 999), k);
        }
        due("a ninth", x.load(1), FULL);
        due("OUTSIDE first", x.load(0), OUTSIDE);
        due("order", x.order(1, NONE), 4000);
    }

    private static void orderIs(SilkHouse x, int m, int end, int... ovens) {
        due("order(" + m + ", -1)", x.order(m, NONE), end);
        for (int k = 0; k < ovens.length; k++) {
            due("order(" + m + ", " + k + ")", x.order(m, k), ovens[k]);
        }
        due("behind the last", x.order(m, ovens.length), NONE);
        due("i -2", x.order(m, -2), NONE);
    }

    private static void order() {
        SilkHouse x = new SilkHouse();
        due("m 0", x.order(0, NONE), OUTSIDE);
        due("m 4", x.order(4, 99), OUTSIDE);
        due("m -1", x.order(-1, 0), OUTSIDE);
        orderIs(x, 2, 0);
        x.load(10);
        orderIs(x, 3, 10, 0);
        x.load(20);
        orderIs(x, 2, 20, 0, 1);
        x.load(30);
        orderIs(x, 1, 60, 0, 0, 0);
        orderIs(x, 2, 30, 0, 0, 1);
        orderIs(x, 3, 30, 0, 0, 1);
        x.load(30);
        orderIs(x, 3, 30, 0, 0, 1, 2);
        x.load(1);
        orderIs(x, 3, 31, 0, 0, 1, 2, 0);
        orderIs(x, 2, 50, 0, 1, 0, 1, 0);
    }

    private static void empty() {
        SilkHouse x = new SilkHouse();
        due("none", x.empty(), 0);
        x.load(9);
        x.load(9);
        due("order", x.order(2, NONE), 9);
        due("two", x.empty(), 2);
        due("none", x.empty(), 0);
        due("order", x.order(2, NONE), 0);
        due("order", x.order(2, 0), NONE);
        due("load", x.load(5), 1);
        due("order", x.order(2, NONE), 5);
    }

    private static void shared() {
        SilkHouse x = new SilkHouse();
        due("low 0", x.shared(0, 1, 1, 1), OUTSIDE);
        due("high 10000", x.shared(1, 10000, 1, 1), OUTSIDE);
        due("low there 0", x.shared(1, 1, 0, 1), OUTSIDE);
        due("high there 10000", x.shared(1, 1, 1, 10000), OUTSIDE);
        due("low above high", x.shared(2, 1, 1, 1), OUTSIDE);
        due("low above high there", x.shared(1, 1, 2, 1), OUTSIDE);
        due("none yet", x.houses(0), NOT);
        for (int k = 1; k <= 8; k++) {
            due("shared", x.shared(1, 9999, 1, 9999), k);
        }
        due("a ninth", x.shared(1, 1, 1, 1), FULL);
        due("OUTSIDE first", x.shared(0, 1, 1, 1), OUTSIDE);
        due("least", x.houses(0), -9998);
        due("greatest", x.houses(1), 9998);
    }

    private static void housesAre(SilkHouse x, int least, int greatest, int out) {
        due("houses(0)", x.houses(0), least);
        due("houses(1)", x.houses(1), greatest);
        due("houses(2)", x.houses(2), out);
    }

    private static void houses() {
        SilkHouse x = new SilkHouse();
        due("none", x.houses(0), NOT);
        due("OUTSIDE before NOT", x.houses(3), OUTSIDE);
        due("OUTSIDE before NOT", x.houses(-1), OUTSIDE);
        x.shared(10, 12, 13, 13);
        housesAre(x, -3, -1, 0);
        x.shared(10, 10, 11, 11);
        housesAre(x, -1, -1, 0);
        x.shared(20, 20, 10, 10);
        housesAre(x, -1, -1, 4);
        x.shared(20, 21, 10, 11);
        // two against two: 3 (bales 0 and 1) is less than 12
        housesAre(x, 10, 10, 3);
        x.shared(5, 6, 8, 8);
        housesAre(x, -3, -2, 14);
        SilkHouse y = new SilkHouse();
        y.shared(1, 1, 5, 5);
        y.shared(5, 5, 5, 5);
        y.shared(5, 5, 1, 1);
        housesAre(y, 4, 4, 3);
    }

    private static SilkHouse certain(int gross) {
        SilkHouse x = withBale(gross);
        enact(x, "let looks 1;let skeins 1;let water 0;", 0);
        return x;
    }

    private static void certify() {
        SilkHouse x = certain(999);
        due("UNKNOWN", x.certify(1), UNKNOWN);
        due("WAITING", x.certify(0), NOT);
        x.skein(0, 0, 0, 1000, 500, 0, 0);
        due("SETTLED", x.certify(0), 0);
        due("499.5 is cut", x.paper(0, 2), 499);
        due("one is there", x.certify(0), NOT);
        due("cut", x.cut(0, 1, 498), 1);
        due("its CUTS are", x.certify(0), NOT);
        x.undo(1);
        due("one of its CUTS is", x.certify(0), NOT);
        x.undo(2);
        due("all are UNDONE", x.certify(0), 3);
        x.bale(50);
        for (int k = 4; k < 40; k++) {
            due("bill", x.bill(3, 1), k);
        }
        due("NOT before FULL", x.certify(1), NOT);
        x.skein(1, 0, 0, 1000, 500, 0, 0);
        due("no room", x.certify(1), FULL);
        due("UNKNOWN first", x.certify(2), UNKNOWN);
        due("nothing changed", x.count(6), 40);
        due("FEES of two", x.count(10), 20);
        SilkHouse w = certain(10);
        w.bale(20);
        w.skein(0, 0, 0, 1000, 500, 0, 0);
        w.skein(1, 0, 0, 1000, 500, 0, 0);
        w.certify(0);
        for (int k = 1; k < 39; k++) {
            w.bill(0, k);
        }
        due("the last that has room", w.certify(1), 39);
        SilkHouse y = certain(1);
        y.skein(0, 0, 0, 1000, 500, 0, 0);
        due("a weight of 0", y.certify(0), 0);
        due("a weight of 0", y.paper(0, 2), 0);
        SilkHouse z = certain(1000);
        z.skein(0, 0, 0, 1000, 900, 0, 0);
        z.certify(0);
        z.lose(0);
        enact(z, "let water 300;", 0);
        due("the weight stays as told", z.paper(0, 2), 900);
        z.undo(0);
        due("not SETTLED today", z.certify(0), NOT);
    }

    private static void bill() {
        SilkHouse x = certain(99999);
        enact(x, "let water 300;", 0);
        x.skein(0, 0, 0, 1000, 1000, 0, 0);
        due("UNKNOWN first", x.bill(0, 1000), UNKNOWN);
        x.certify(0);
        due("price 1000", x.bill(0, 1000), OUTSIDE);
        due("price -1", x.bill(0, -1), OUTSIDE);
        due("the dearest", x.bill(0, 999), 1);
        due("its worth", x.paper(1, 2), 129998L * 999);
        due("for nothing", x.bill(0, 0), 2);
        due("its worth", x.paper(2, 2), 0);
        due("on a BILL", x.bill(1, 1), NOT);
        due("OUTSIDE before NOT", x.bill(1, 1000), OUTSIDE);
        for (int k = 3; k < 40; k++) {
            due("bill", x.bill(0, 999), k);
        }
        due("no room", x.bill(0, 1), FULL);
        due("NOT before FULL", x.bill(1, 1), NOT);
        due("more than an int", x.stood(0, 0), 38 * 129998L * 999);
        x.undo(0);
        due("on one that is UNDONE", x.bill(0, 1), NOT);
    }

    private static void cut() {
        SilkHouse x = certain(1000);
        x.skein(0, 0, 0, 1000, 900, 0, 0);
        due("UNKNOWN first", x.cut(0, 0, 0), UNKNOWN);
        x.certify(0);
        due("a 0", x.cut(0, 0, 900), OUTSIDE);
        due("b 0", x.cut(0, 900, 0), OUTSIDE);
        due("a below 0", x.cut(0, -1, 901), OUTSIDE);
        due("too little", x.cut(0, 1, 898), OUTSIDE);
        due("too much", x.cut(0, 1, 900), OUTSIDE);
        due("far too much", x.cut(0, Integer.MAX_VALUE, Integer.MAX_VALUE), OUTSIDE);
        due("no wrap-around", x.cut(0, Integer.MAX_VALUE, Integer.MIN_VALUE + 901), OUTSIDE);
        x.go(2);
        due("cut", x.cut(0, 1, 899), 1);
        due("UNDONE by that", x.paper(0, 5), 2);
        due("once", x.cut(0, 1, 899), NOT);
        due("OUTSIDE before NOT", x.cut(0, 1, 898), OUTSIDE);
        due("its parts", x.paper(1, 2), 1);
        due("its parts", x.paper(2, 2), 899);
        due("hang on it", x.paper(2, 3), 0);
        due("of its BALE", x.paper(2, 1), 0);
        due("told at NOW", x.paper(2, 4), 2);
        due("a bill", x.bill(2, 1), 3);
        due("BILLS hang on it", x.cut(2, 1, 898), NOT);
        due("a BILL is none", x.cut(3, 1, 898), NOT);
        due("a part of 1", x.cut(1, 1, 0), OUTSIDE);
        x.undo(2);
        x.undo(1);
        due("certify", x.certify(0), 4);
        int whole = 4;
        for (int left = 899; x.count(6) < 39; left--) {
            due("cut", x.cut(whole, 1, left), whole == 4 ? 5 : whole + 1);
            whole = x.count(6) - 1;
            if (x.count(6) == 39) {
                due("no room for two", x.cut(whole, 1, left - 1), FULL);
                due("not UNDONE by that", x.paper(whole, 5), NONE);
                due("bill", x.bill(whole, 1), 39);
                due("NOT before FULL", x.cut(whole, 1, left - 1), NOT);
            }
        }
    }

    private static void cutsTillFull() {
        SilkHouse x = certain(1000);
        x.skein(0, 0, 0, 1000, 1000, 0, 0);
        x.certify(0);
        x.cut(0, 1, 999);
        x.bill(1, 1);
        int whole = 2;
        for (int left = 998; x.count(6) < 38; left--) {
            due("cut", x.cut(whole, 1, left), x.count(6) - 2);
            whole = x.count(6) - 1;
        }
        int weight = x.paper(whole, 2);
        due("just room for two", x.cut(whole, weight - 1, 1), 38);
        due("all PAPERS", x.count(6), 40);
        due("b is the next", x.paper(39, 2), 1);
        due("no room", x.cut(38, weight - 2, 1), FULL);
    }

    private static void undo() {
        SilkHouse x = certain(1000);
        x.skein(0, 0, 0, 1000, 900, 0, 0);
        due("UNKNOWN", x.undo(0), UNKNOWN);
        due("UNKNOWN", x.undo(-1), UNKNOWN);
        x.certify(0);
        x.bill(0, 1);
        x.bill(0, 2);
        due("a BILL", x.undo(1), NOT);
        x.go(5);
        due("with all BILLS", x.undo(0), 3);
        due("already", x.undo(0), NOT);
        due("from NOW on", x.paper(2, 5), 5);
        x.go(1);
        x.certify(0);
        x.cut(3, 400, 500);
        x.bill(4, 1);
        x.bill(5, 1);
        x.bill(5, 1);
        due("UNDONE by its CUT", x.undo(3), NOT);
        x.go(1);
        due("one part with its BILL", x.undo(4), 2);
        due("the other stands", x.paper(5, 5), NONE);
        due("its BILL stands", x.paper(7, 5), NONE);
        due("what fell before stays as it was", x.paper(1, 5), 5);
        due("the other with its BILLS", x.undo(5), 3);
    }

    private static void paper() {
        SilkHouse x = certain(1000);
        x.bale(500);
        x.skein(1, 0, 0, 1000, 900, 0, 0);
        x.go(3);
        x.certify(1);
        x.go(1);
        x.bill(0, 7);
        int[] certificate = {0, 1, 450, NONE, 3, NONE, 1};
        int[] bill = {1, 1, 3150, 0, 4, NONE, 0};
        for (int what = 0; what < 7; what++) {
            due("paper(0, " + what + ")", x.paper(0, what), certificate[what]);
            due("paper(1, " + what + ")", x.paper(1, what), bill[what]);
        }
        due("UNKNOWN first", x.paper(2, 7), UNKNOWN);
        due("UNKNOWN", x.paper(-1, 0), UNKNOWN);
        due("what 7", x.paper(0, 7), OUTSIDE);
        due("what -1", x.paper(0, -1), OUTSIDE);
        x.go(1);
        x.undo(0);
        due("UNDONE", x.paper(0, 5), 5);
        due("UNDONE", x.paper(1, 5), 5);
        due("they hang on it still", x.paper(0, 6), 1);
        x.certify(1);
        x.cut(2, 50, 400);
        x.cut(4, 100, 300);
        due("right on it, and no further", x.paper(2, 6), 2);
    }

    private static void stood() {
        SilkHouse x = certain(1000);
        due("after NOW", x.stood(1, 0), OUTSIDE);
        due("day -1", x.stood(-1, 0), OUTSIDE);
        due("what 2", x.stood(0, 2), OUTSIDE);
        due("what -1", x.stood(0, -1), OUTSIDE);
        x.skein(0, 0, 0, 1000, 900, 0, 0);
        x.go(1);
        x.certify(0);
        x.go(1);
        x.bill(0, 3);
        x.go(1);
        x.undo(0);
        x.certify(0);
        x.go(1);
        x.cut(2, 300, 600);
        x.bill(3, 5);
        x.go(1);
        x.undo(4);
        long[] bills = {0, 0, 2700, 0, 1500, 1500};
        long[] certificates = {0, 900, 900, 900, 900, 300};
        for (int day = 0; day <= 5; day++) {
            due("stood(" + day + ", 0)", x.stood(day, 0), bills[day]);
            due("stood(" + day + ", 1)", x.stood(day, 1), certificates[day]);
        }
        due("after NOW", x.stood(6, 0), OUTSIDE);
    }

    private static void constants() {
        due("NONE", SilkHouse.NONE, NONE);
        due("UNKNOWN", SilkHouse.UNKNOWN, UNKNOWN);
        due("OUTSIDE", SilkHouse.OUTSIDE, OUTSIDE);
        due("NOT", SilkHouse.NOT, NOT);
        due("FULL", SilkHouse.FULL, FULL);
    }

    private static void run(int number) {
        promise = "promise " + number;
        switch (number) {
            case 0 -> constants();
            case 1 -> newObject();
            case 2 -> go();
            case 3 -> bale();
            case 4 -> skein();
            case 5 -> lose();
            case 6 -> told();
            case 7 -> test();
            case 8 -> error();
            case 9 -> ratio();
            case 10 -> count();
            case 11 -> feeding();
            case 12 -> rule();
            case 13 -> fault();
            case 14 -> force();
            case 15 -> letter();
            case 16 -> state();
            case 17 -> lawful();
            case 18 -> span();
            case 19 -> cause();
            case 20 -> odd();
            case 21 -> needed();
            case 22 -> thread();
            case 23 -> size();
            case 24 -> named();
            case 25 -> turns();
            case 26 -> twist();
            case 27 -> burnt();
            case 28 -> cheat();
            case 29 -> load();
            case 30 -> order();
            case 31 -> empty();
            case 32 -> shared();
            case 33 -> houses();
            case 34 -> certify();
            case 35 -> bill();
            case 36 -> {
                cut();
                cutsTillFull();
            }
            case 37 -> undo();
            case 38 -> paper();
            default -> stood();
        }
    }

    public static void main(String[] args) {
        for (int number = 0; number <= 39; number++) {
            run(number);
        }
        System.out.println(asked + " answers asked, " + wrong + " are not as due");
        if (wrong != 0) {
            System.exit(1);
        }
    }
}
