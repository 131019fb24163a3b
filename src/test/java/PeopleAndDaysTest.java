/** Promises 1 to 15: what there is, and how it changes. */
public final class PeopleAndDaysTest {
    private static final Due DUE = new Due("promises 1 to 15");

    public static void main(String[] args) {
        promise1();
        promise2();
        promise3Faults();
        promise3Statements();
        promise3Room();
        promise4();
        promise5();
        promise6();
        promise7();
        promise8();
        promise9();
        promise10();
        promise11();
        promise12();
        promise13();
        promise14Letters();
        promise14Rubbing();
        promise14Writing();
        promise14Crowd();
        promise14Refusals();
        promise15();
        DUE.end();
    }

    private static void promise1() {
        MayReadPencil x = new MayReadPencil();
        for (int what = 0; what <= 16; what++) {
            DUE.is("count of a new object, " + what, x.count(what), what == 2 ? 6 : 0);
        }
        DUE.is("nobody is there", x.person(0, 0), -1);
        DUE.is("no letter is there", x.letter(0, 0), -1);
        DUE.is("she knows nothing", x.above(-1, 0), -9);
        DUE.is("she forbids nothing", x.forbids(0), 1);
        DUE.is("no image is there", x.restore(), -3);
    }

    private static void promise2() {
        MayReadPencil x = new MayReadPencil();
        DUE.is("feed(-1)", x.feed(-1), -4);
        DUE.is("feed(256)", x.feed(256), -6);
        DUE.is("feed(least int)", x.feed(Integer.MIN_VALUE), -4);
        DUE.is("feed(greatest int)", x.feed(Integer.MAX_VALUE), -6);
        DUE.is("feed(0)", x.feed(0), 1);
        DUE.is("feed(255)", x.feed(255), 2);
        for (int i = 3; i <= 96; i++) {
            DUE.is("feed of letter " + i, x.feed('d'), i);
        }
        DUE.is("feed of letter 97", x.feed('d'), -6);
        DUE.is("feed(-1) of letter 97", x.feed(-1), -4);
        DUE.is("letters", x.count(8), 96);
        DUE.is("refused below", x.count(14), 3);
        DUE.is("refused for room", x.count(16), 3);
    }

    private static void fault(String text, int want) {
        MayReadPencil x = new MayReadPencil();
        DUE.is("post of '" + text + "'", Due.post(x, text), want);
        DUE.is("letters behind '" + text + "'", x.count(8), 0);
        for (int what = 11; what <= 16; what++) {
            DUE.is("refusals behind '" + text + "'", x.count(what), 0);
        }
    }

    private static void promise3Faults() {
        fault("", -1000);
        fault("q", -1000);
        fault("P00;", -1000);
        fault(";", -1000);
        fault("p", -1001);
        fault("p/0;", -1001);
        fault("p:0;", -1001);
        fault("p0;", -1002);
        fault("p05", -1003);
        fault("p05p", -1003);
        fault("p056;", -1003);
        fault("p05;;", -1004);
        fault("p05;f", -1005);
        fault("p05;k000", -1008);
        fault("p05;k00;", -1007);
        fault("p05;k0000;", -1008);
        fault("s05;x5;", -1006);
        fault("r5;", -1002);
        fault("d5;", -1002);
        fault("p80;q", -1004);
        fault("s40;s4", -1006);
        fault("p80;", -2000);
        fault("p90;", -2000);
        fault("s39;p80;", -2004);
        fault("f00;", -2000);
        fault("p00;f10;", -2004);
        fault("p00;f06;", -2004);
        fault("k000;", -2000);
        fault("p00;k100;", -2004);
        fault("p00;k040;", -2004);
        fault("p00;k000;s40;", -2009);
        fault("x40;", -2000);
        fault("r19;", -2000);
        fault("d00;", -2000);
        fault("d61;", -2000);
        fault("d01;d99;s40;", -2004);
    }

    private static void promise3Statements() {
        MayReadPencil x = new MayReadPencil();
        x.tells(-1, 1);
        DUE.is("a post with a fault", Due.post(x, "s05;p00;x05;r05;d05;s40;"), -2020);
        DUE.is("nothing of it came: she knows", x.count(6), 1);
        DUE.is("nothing of it came: people", x.count(0), 0);
        DUE.is("nothing of it came: she forbids", x.count(7), 0);
        DUE.is("nothing of it came: rubber", x.count(2), 6);
        DUE.is("nothing of it came: day", x.count(1), 0);
        DUE.is("what can be taken back stays", x.count(10), 1);
        DUE.is("a post", Due.post(x, "p79;p00;f05;f11;k039;s39;s00;x39;x07;x07;r18;d60;"), 12);
        DUE.is("nothing can be taken back", x.count(10), 0);
        DUE.is("kind", x.person(0, 0), 7);
        DUE.is("figure", x.person(0, 1), 9);
        DUE.is("friend", x.person(0, 2), 5);
        DUE.is("friend, himself", x.person(1, 2), 1);
        DUE.is("he knows", x.knows(0, 39), 1);
        DUE.is("she knows", x.count(6), 3);
        DUE.is("she forbids, and not what was told twice", x.count(7), 1);
        DUE.is("she forbids 39", x.forbids(39), 0);
        DUE.is("rubber", x.count(2), 18);
        DUE.is("day", x.count(1), 60);
        DUE.is("a post of the greatest rubber and the last kind", Due.post(x, "r18;r00;p79;d01;"), 4);
    }

    private static void promise3Room() {
        MayReadPencil x = new MayReadPencil();
        DUE.is("a seventh", Due.post(x, "p00;p00;p00;p00;p00;p00;p00;"), -2024);
        DUE.is("six", Due.post(x, "p00;p00;p00;p00;p00;p00;f50;k539;"), 8);
        DUE.is("a seventh later", Due.post(x, "r01;p00;"), -2004);
        DUE.is("24 statements", Due.post(x, "r01;".repeat(24)), 24);
        DUE.is("960 days", Due.post(x, "d60;".repeat(16)), 16);
        DUE.is("to day 1000", Due.post(x, "d39;d01;"), -2004);
        DUE.is("to day 999", Due.post(x, "d39;"), 1);
        DUE.is("to day 1000, by one", Due.post(x, "d01;"), -2000);
        DUE.is("day", x.count(1), 999);
    }

    /** Press, every and picks; the leads on days 1, 2, .. behind them. */
    private static void kind(int kind, int figure, int press, int every, int picks, int... leads) {
        MayReadPencil x = new MayReadPencil();
        x.comes(kind, figure);
        String who = "kind " + kind + ", figure " + figure + ": ";
        DUE.is(who + "kind", x.person(0, 0), kind);
        DUE.is(who + "figure", x.person(0, 1), figure);
        DUE.is(who + "press", x.person(0, 6), press);
        DUE.is(who + "every", x.person(0, 7), every);
        DUE.is(who + "picks", x.person(0, 8), picks);
        for (int i = 0; i < leads.length; i++) {
            DUE.is(who + "lead on day " + (i + 1), x.person(0, 5), leads[i]);
            x.days(1);
        }
    }

    private static void promise4() {
        kind(0, 0, 2, 3, 1, 0, 0, 0);
        kind(0, 7, 2, 3, 1, 7, 0, 7, 0, 7, 0);
        kind(1, 0, 4, 1, 3, 1, 1);
        kind(1, 7, 6, 1, 3, 4, 4, 4);
        kind(1, 9, 7, 1, 3, 5, 5);
        kind(2, 0, 1, 2, 2, 1, 7, 4, 1, 7, 4);
        kind(2, 7, 1, 5, 2, 1, 7, 4, 1);
        kind(2, 9, 1, 6, 2, 1, 7, 4, 1);
        kind(3, 0, 5, 5, 1, 0, 9, 0, 9, 0, 9);
        kind(3, 2, 5, 5, 1, 0, 0, 0, 9, 0, 0, 0, 9);
        kind(3, 7, 5, 5, 1, 0, 0, 0, 0, 0, 0, 0, 0, 9, 0);
        kind(4, 0, 0, 3, 2, 5, 9, 5, 9);
        kind(4, 1, 0, 3, 2, 5, 0, 9, 0, 5, 9, 5, 0, 9);
        kind(4, 7, 0, 3, 2, 5, 0, 5, 0, 5, 0, 5, 0, 9, 0);
        kind(5, 0, 1, 3, 2, 3, 3);
        kind(5, 7, 3, 3, 2, 6, 6);
        kind(5, 9, 4, 3, 2, 7, 7);
        kind(6, 0, 5, 3, 2, 0, 6, 3, 0, 6, 3);
        kind(6, 7, 5, 6, 2, 0, 6, 3);
        kind(6, 9, 5, 7, 2, 0, 6, 3);
        kind(7, 0, 5, 6, 3, 9, 3, 6, 9, 3, 6);
        kind(7, 7, 5, 12, 3, 9, 3, 6);
        kind(7, 9, 5, 14, 3, 9, 3, 6);
        MayReadPencil x = Due.with("p10;p10;k003;k004;k005;k006;d01;");
        DUE.is("friend", x.person(0, 2), 1);
        DUE.is("knows", x.person(0, 3), 4);
        DUE.is("has written", x.person(0, 4), 3);
        DUE.is("person(-1, 9)", x.person(-1, 9), -1);
        DUE.is("person(2, 0)", x.person(2, 0), -1);
        DUE.is("person(1, -1)", x.person(1, -1), -2);
        DUE.is("person(1, 9)", x.person(1, 9), -2);
    }

    private static void promise5() {
        MayReadPencil x = Due.with("p10;k000;k039;s07;");
        DUE.is("knows(0, 0)", x.knows(0, 0), 1);
        DUE.is("knows(0, 39)", x.knows(0, 39), 1);
        DUE.is("knows(0, 7)", x.knows(0, 7), 0);
        DUE.is("knows(-1, 7)", x.knows(-1, 7), 1);
        DUE.is("knows(-1, 39)", x.knows(-1, 39), 0);
        DUE.is("knows(-2, 40)", x.knows(-2, 40), -1);
        DUE.is("knows(1, -1)", x.knows(1, -1), -1);
        DUE.is("knows(0, -1)", x.knows(0, -1), -4);
        DUE.is("knows(0, 40)", x.knows(0, 40), -6);
        DUE.is("knows(-1, 64)", x.knows(-1, 64), -6);
    }

    private static void promise6() {
        MayReadPencil x = Due.with("p10;k004;k039;s07;");
        DUE.is("above(0, 0)", x.above(0, 0), 4);
        DUE.is("above(0, 4)", x.above(0, 4), 4);
        DUE.is("above(0, 5)", x.above(0, 5), 39);
        DUE.is("above(0, 39)", x.above(0, 39), 39);
        DUE.is("above(-1, 7)", x.above(-1, 7), 7);
        DUE.is("above(-1, 8)", x.above(-1, 8), -9);
        DUE.is("above(-2, 40)", x.above(-2, 40), -1);
        DUE.is("above(1, -1)", x.above(1, -1), -1);
        DUE.is("above(0, -1)", x.above(0, -1), -4);
        DUE.is("above(0, 40)", x.above(0, 40), -6);
    }

    private static void promise7() {
        MayReadPencil x = Due.with("p00;p25;f10;k105;k107;k109;d04;");
        int[] want = {1, 0, 1, 1, 2, 5, 7};
        for (int what = 0; what < want.length; what++) {
            DUE.is("letter(0, " + what + ")", x.letter(0, what), want[what]);
        }
        MayReadPencil least = Due.with("p10;p10;k000;d01;");
        DUE.is("least of secret 0", least.letter(0, 5), 0);
        DUE.is("greatest of secret 0", least.letter(0, 6), 0);
        DUE.is("letter(-1, 7)", x.letter(-1, 7), -1);
        DUE.is("letter(1, 0)", x.letter(1, 0), -1);
        DUE.is("letter(0, -1)", x.letter(0, -1), -2);
        DUE.is("letter(0, 7)", x.letter(0, 7), -2);
        x.days(4);
        DUE.is("lead of the next", x.letter(0, 2), 7);
        DUE.is("clauses of the next", x.letter(0, 4), 1);
        DUE.is("least of the next", x.letter(0, 5), 9);
        DUE.is("greatest of the next", x.letter(0, 6), 9);
    }

    private static void promise8() {
        MayReadPencil x = new MayReadPencil();
        x.rubber(3);
        DUE.is("comes(8, -1)", x.comes(8, -1), -2);
        DUE.is("comes(-1, 10)", x.comes(-1, 10), -2);
        DUE.is("comes(0, -1)", x.comes(0, -1), -4);
        DUE.is("comes(0, 10)", x.comes(0, 10), -6);
        DUE.is("refused ones leave it to be taken back", x.count(10), 1);
        for (int number = 0; number < 6; number++) {
            DUE.is("comes, " + number, x.comes(7 - number, 9 - number), number);
            DUE.is("his friend", x.person(number, 2), number == 5 ? 0 : number + 1);
            DUE.is("his kind", x.person(number, 0), 7 - number);
            DUE.is("his figure", x.person(number, 1), 9 - number);
            DUE.is("he knows nothing", x.person(number, 3), 0);
        }
        DUE.is("nothing can be taken back", x.count(10), 0);
        DUE.is("comes, a seventh", x.comes(0, 0), -6);
        DUE.is("comes, a seventh below", x.comes(0, -1), -4);
        DUE.is("comes, a seventh of no kind", x.comes(8, 0), -2);
        DUE.is("people", x.count(0), 6);
    }

    private static void promise9() {
        MayReadPencil x = Due.with("p10;p10;");
        DUE.is("friend(0, 5)", x.friend(0, 5), 1);
        DUE.is("friend(0, 0)", x.friend(0, 0), 5);
        DUE.is("friend(0, 0) again", x.friend(0, 0), 0);
        DUE.is("all three can be taken back", x.count(10), 3);
        DUE.is("friend(2, -1)", x.friend(2, -1), -1);
        DUE.is("friend(-1, 0)", x.friend(-1, 0), -1);
        DUE.is("friend(0, -1)", x.friend(0, -1), -4);
        DUE.is("friend(0, 6)", x.friend(0, 6), -6);
        DUE.is("refused ones do not count", x.count(10), 3);
    }

    private static void promise10() {
        MayReadPencil x = Due.with("p10;");
        DUE.is("tells(0, 39)", x.tells(0, 39), 1);
        DUE.is("tells(0, 39) again", x.tells(0, 39), 0);
        DUE.is("tells(-1, 39)", x.tells(-1, 39), 1);
        DUE.is("tells(-1, 39) again", x.tells(-1, 39), 0);
        DUE.is("he knows", x.knows(0, 39), 1);
        DUE.is("she knows", x.count(6), 1);
        DUE.is("all can be taken back", x.count(10), 4);
        DUE.is("tells(-2, 40)", x.tells(-2, 40), -1);
        DUE.is("tells(1, -1)", x.tells(1, -1), -1);
        DUE.is("tells(0, -1)", x.tells(0, -1), -4);
        DUE.is("tells(0, 40)", x.tells(0, 40), -6);
    }

    private static void promise11() {
        MayReadPencil x = new MayReadPencil();
        DUE.is("forbids(39)", x.forbids(39), 1);
        DUE.is("forbids(0)", x.forbids(0), 1);
        DUE.is("she forbids", x.count(7), 2);
        DUE.is("forbids(39) again", x.forbids(39), 0);
        DUE.is("she forbids less", x.count(7), 1);
        DUE.is("forbids(-1)", x.forbids(-1), -4);
        DUE.is("forbids(40)", x.forbids(40), -6);
        DUE.is("what can be taken back", x.count(10), 3);
    }

    private static void promise12() {
        MayReadPencil x = new MayReadPencil();
        DUE.is("rubber(18)", x.rubber(18), 6);
        DUE.is("rubber(0)", x.rubber(0), 18);
        DUE.is("rubber(0) again", x.rubber(0), 0);
        DUE.is("rubber(-1)", x.rubber(-1), -4);
        DUE.is("rubber(19)", x.rubber(19), -6);
        DUE.is("rubber", x.count(2), 0);
        DUE.is("what can be taken back", x.count(10), 3);
    }

    private static void promise13() {
        MayReadPencil x = Due.with("p10;p10;p10;f20;k005;k106;k207;d01;");
        DUE.is("letters", x.count(5), 3);
        DUE.is("recalls(1)", x.recalls(1), 1);
        DUE.is("letters left", x.count(5), 2);
        DUE.is("the first left", x.letter(0, 0), 0);
        DUE.is("the second left", x.letter(1, 0), 2);
        DUE.is("its clauses", x.letter(1, 5), 7);
        DUE.is("its lead", x.letter(1, 2), 1);
        DUE.is("its press", x.letter(1, 3), 4);
        DUE.is("whom it is to", x.letter(1, 1), 0);
        DUE.is("written stays", x.person(1, 4), 1);
        DUE.is("recalls(1) again", x.recalls(1), 0);
        DUE.is("both can be taken back", x.count(10), 2);
        DUE.is("recalls(-1)", x.recalls(-1), -1);
        DUE.is("recalls(3)", x.recalls(3), -1);
        MayReadPencil two = Due.with("p10;p10;p10;p10;f30;k000;k101;k202;k303;d01;", "k304;d01;");
        DUE.is("letters, two of one", two.count(5), 4);
        DUE.is("recalls of two letters", two.recalls(3), 2);
        DUE.is("letters left of the others", two.count(5), 2);
    }

    private static void promise14Letters() {
        MayReadPencil x = Due.with("p10;p10;p10;k005;");
        DUE.is("a day", x.days(1), 0);
        DUE.is("a letter is in the bag", x.count(5), 1);
        DUE.is("a second day: she has read it", x.days(1), 1);
        DUE.is("whom it was to knows it", x.knows(1, 5), 1);
        DUE.is("and writes it on that day", x.letter(0, 0), 1);
        DUE.is("the first writes it no more", x.count(5), 1);
        DUE.is("a third day", x.days(1), 1);
        DUE.is("the third knows it", x.knows(2, 5), 1);
        DUE.is("his friend is not there", x.count(5), 0);
        MayReadPencil ink = Due.with("p00;p00;k005;d03;");
        DUE.is("a letter in ink", ink.letter(0, 2), 0);
        DUE.is("she does not read it", ink.days(1), 0);
        DUE.is("it comes through", ink.knows(1, 5), 1);
        MayReadPencil six = Due.with("p10;p10;p10;p10;p10;p10;f10;f20;f30;f40;f50;",
                "k101;k202;k303;k404;k505;d01;");
        DUE.is("letters of five", six.count(5), 5);
        DUE.is("three a night", six.days(1), 3);
        DUE.is("the first three", six.above(-1, 4), -9);
        DUE.is("all by the next", six.days(1), 5);
        MayReadPencil own = Due.with("p10;p10;f00;k005;d05;");
        DUE.is("nobody writes to himself", own.count(5) + own.person(0, 4), 0);
    }

    private static void promise14Rubbing() {
        String soldier = "p25;p05;k005;k007;d04;";
        MayReadPencil x = Due.with(soldier, "x05;r02;");
        DUE.is("she reads both", x.days(1), 2);
        DUE.is("one is rubbed out", x.knows(1, 5), 0);
        DUE.is("the other comes through", x.knows(1, 7), 1);
        DUE.is("rubbed", x.count(4), 1);
        DUE.is("drawer", x.count(3), 0);
        MayReadPencil hard = Due.with(soldier, "x05;r01;d01;");
        DUE.is("the lead does not give", hard.knows(1, 5), 1);
        DUE.is("she reads it all the same", hard.count(6), 2);
        DUE.is("nothing is rubbed", hard.count(4), 0);
        MayReadPencil none = Due.with(soldier, "x05;x07;d01;");
        DUE.is("a letter without clauses goes to the drawer", none.count(3), 1);
        DUE.is("both are rubbed", none.count(4), 2);
        DUE.is("he knows nothing", none.person(1, 3), 0);
        MayReadPencil word = Due.with(soldier, "x05;x07;x01;s01;s02;s03;s04;k102;d01;");
        DUE.is("she puts in the least that he does not know and she does not forbid", word.knows(1, 3), 1);
        DUE.is("and no more", word.person(1, 3), 2);
        DUE.is("nothing goes to the drawer", word.count(3), 0);
        MayReadPencil left = Due.with(soldier, "x05;s01;d01;");
        DUE.is("she puts in nothing where a clause is left", left.knows(1, 1), 0);
        MayReadPencil ink = Due.with("p00;p00;k005;x05;r18;s01;d04;");
        DUE.is("ink is not rubbed", ink.knows(1, 5), 1);
    }

    private static void promise14Writing() {
        MayReadPencil spy = Due.with("p40;p00;k001;k005;k009;d03;");
        DUE.is("a spy's two are the greatest: least", spy.letter(0, 5), 5);
        DUE.is("a spy's two are the greatest: greatest", spy.letter(0, 6), 9);
        DUE.is("a spy's lead on day 3", spy.letter(0, 2), 5);
        MayReadPencil deserter = Due.with("p70;p00;k001;k005;k009;k013;d06;");
        DUE.is("a deserter's three: clauses", deserter.letter(0, 4), 3);
        DUE.is("a deserter's three: least", deserter.letter(0, 5), 5);
        DUE.is("a deserter's lead on day 6", deserter.letter(0, 2), 6);
        DUE.is("a deserter's press", deserter.letter(0, 3), 5);
        MayReadPencil child = Due.with("p60;p00;k001;k005;k009;d03;");
        DUE.is("a child's two: least", child.letter(0, 5), 1);
        DUE.is("a child's two: greatest", child.letter(0, 6), 5);
        MayReadPencil lover = Due.with("p10;p00;k001;k005;k009;k013;d02;");
        DUE.is("a lover's fourth goes on the next day", lover.letter(0, 5), 13);
        DUE.is("he has written all", lover.person(0, 4), 4);
        MayReadPencil far = Due.with("p10;k005;d03;");
        DUE.is("nothing is written to nobody", far.person(0, 4), 0);
        far.comes(0, 0);
        far.days(1);
        DUE.is("it is written when he is there", far.person(0, 4), 1);
    }

    /** Six lovers, 2 letters or more a day each until the bag has no more room. */
    private static void promise14Crowd() {
        MayReadPencil x = Due.with("p10;p10;p10;p10;p10;p10;");
        for (int secret = 0; secret < 40; secret++) {
            for (int one = 0; one < 6; one++) {
                x.tells(one, secret);
            }
        }
        int[] letters = {6, 9, 12, 15, 18, 21, 24, 24};
        for (int want : letters) {
            x.days(1);
            DUE.is("letters in the bag", x.count(5), want);
        }
        DUE.is("the third has written eight days", x.person(2, 4), 24);
        DUE.is("the fourth found no room on the eighth", x.person(3, 4), 21);
        DUE.is("nor the sixth", x.person(5, 4), 21);
        DUE.is("the last letter is the third's", x.letter(23, 0), 2);
        DUE.is("there is none behind it", x.letter(24, 0), -1);
    }

    private static void promise14Refusals() {
        MayReadPencil x = new MayReadPencil();
        DUE.is("days(0)", x.days(0), -4);
        DUE.is("days(-5)", x.days(-5), -4);
        DUE.is("days(61)", x.days(61), -6);
        DUE.is("days(greatest int)", x.days(Integer.MAX_VALUE), -6);
        DUE.is("none can be taken back", x.count(10), 0);
        for (int i = 0; i < 16; i++) {
            x.days(60);
        }
        DUE.is("to day 1000", x.days(40), -6);
        DUE.is("to day 999", x.days(39), 0);
        DUE.is("day", x.count(1), 999);
        DUE.is("days(1) on day 999", x.days(1), -6);
        DUE.is("days(0) on day 999", x.days(0), -4);
    }

    private static void promise15() {
        MayReadPencil x = Due.with("p10;p10;k005;");
        DUE.is("back() of nothing", x.back(), -3);
        x.friend(0, 3);
        x.tells(0, 6);
        x.tells(-1, 6);
        x.forbids(6);
        x.rubber(9);
        x.friend(0, 1);
        x.days(1);
        x.recalls(0);
        DUE.is("eight", x.count(10), 8);
        DUE.is("back of recalls()", x.back() * 100 + x.count(5), 701);
        DUE.is("back of days()", x.back() * 100 + x.count(1) + x.count(5) + x.person(0, 4), 600);
        DUE.is("back of friend()", x.back() * 100 + x.person(0, 2), 503);
        DUE.is("back of rubber()", x.back() * 100 + x.count(2), 406);
        DUE.is("back of forbids()", x.back() * 100 + x.count(7), 300);
        DUE.is("back of tells(-1, 6)", x.back() * 100 + x.count(6), 200);
        DUE.is("back of tells(0, 6)", x.back() * 100 + x.person(0, 3), 101);
        DUE.is("back of the first friend()", x.back() * 100 + x.person(0, 2), 1);
        DUE.is("back() of nothing more", x.back(), -3);
        for (int v = 0; v < 10; v++) {
            x.rubber(v);
        }
        DUE.is("eight at most", x.count(10), 8);
        for (int left = 7; left >= 0; left--) {
            DUE.is("back", x.back(), left);
        }
        DUE.is("the older ones stay", x.count(2), 1);
        DUE.is("back() of older ones", x.back(), -3);
        x.rubber(2);
        x.tells(-1, 1);
        x.back();
        x.tells(-1, 2);
        DUE.is("back behind a change", x.back() * 100 + x.count(6), 100);
        x.comes(0, 0);
        DUE.is("comes() leaves none", x.back(), -3);
    }
}
