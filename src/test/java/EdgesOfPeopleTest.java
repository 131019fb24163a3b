/** The boundary cases of part I but a post's: a test for each sentence of the document that names one. */
public final class EdgesOfPeopleTest {
    private static final Due DUE = new Due("edges of part I");
    /** 1 .. 5 write to 0; each is a lover of figure 0, whose lead of 1 and press of 4 are 5 together. */
    private static final String FIVE_TO_ONE = "p10;p10;p10;p10;p10;p10;f00;f10;f20;f30;f40;f50;";

    public static void main(String[] args) {
        calls();
        people();
        figures();
        friends();
        knownSecrets();
        writtenSecrets();
        fullBag();
        ink();
        herSecrets();
        forbiddenSecrets();
        rubber();
        drawerAndRubbed();
        days();
        kinds();
        leads();
        leadsOnTheLastDay();
        presses();
        everies();
        threeLetters();
        oneByOne();
        softEnough();
        rubbedOut();
        putIn();
        spoilt();
        otherFriends();
        picks();
        noRoomInTheBag();
        recalled();
        DUE.end();
    }

    private static void calls() {
        DUE.about("An object is used for at most 512 calls after it has been made");
        MayReadPencil x = new MayReadPencil();
        for (int i = 0; i < 511; i++) {
            x.rubber(i % 19);
        }
        DUE.is("the 512th call", x.rubber(0), 510 % 19);
    }

    private static void people() {
        DUE.about("PEOPLE 0 .. as they come (6 at most)");
        MayReadPencil x = new MayReadPencil();
        DUE.is("nobody at first", x.count(0), 0);
        DUE.is("the first before he comes", x.person(0, 0), -1);
        for (int number = 0; number < 6; number++) {
            DUE.is("one more", x.comes(number, number), number);
            DUE.is("he is there", x.person(number, 1), number);
            DUE.is("the next is not", x.person(number + 1, 1), -1);
            DUE.is("so many are there", x.count(0), number + 1);
        }
        DUE.is("a seventh", x.comes(0, 0), -6);
        DUE.is("six are there", x.count(0), 6);
    }

    private static void figures() {
        DUE.about("each with a FIGURE (0 .. 9)");
        for (int kind = 0; kind < 8; kind++) {
            MayReadPencil x = new MayReadPencil();
            DUE.is("figure -1", x.comes(kind, -1), -4);
            DUE.is("figure 10", x.comes(kind, 10), -6);
            DUE.is("figure 0", x.comes(kind, 0), 0);
            DUE.is("figure 9", x.comes(kind, 9), 1);
            DUE.is("the least", x.person(0, 1), 0);
            DUE.is("the greatest", x.person(1, 1), 9);
        }
    }

    private static void friends() {
        DUE.about("a FRIEND (a number 0 .. 5;");
        MayReadPencil x = Due.with("p10;p10;k005;");
        DUE.is("friend -1", x.friend(0, -1), -4);
        DUE.is("friend 6", x.friend(0, 6), -6);
        DUE.is("friend 5", x.friend(0, 5), 1);
        DUE.is("friend 0", x.friend(0, 0), 5);
        DUE.is("friend 0 now", x.person(0, 2), 0);
        DUE.about("at first 1 more than his own, of 5 0;");
        MayReadPencil six = new MayReadPencil();
        int[] due = {1, 2, 3, 4, 5, 0};
        for (int one = 0; one < 6; one++) {
            six.comes(1, 0);
            DUE.is("friend of " + one, six.person(one, 2), due[one]);
        }
        DUE.about("there need be none of that number, and it may be his own)");
        DUE.is("his own: he writes nothing", x.then(60, 0) + x.then(60, 3), 1);
        x.friend(0, 2);
        DUE.is("none of that number: he writes nothing", x.then(60, 0) + x.then(60, 3), 1);
        x.friend(0, 1);
        DUE.is("another one: he writes", x.then(60, 3), 2);
    }

    private static void knownSecrets() {
        DUE.about("Each KNOWS SECRETS (0 .. 39; none at first)");
        MayReadPencil x = Due.with("p10;");
        DUE.is("none", x.person(0, 3), 0);
        DUE.is("no least", x.above(0, 0), -9);
        DUE.is("no greatest", x.above(0, 39), -9);
        DUE.is("secret -1", x.tells(0, -1), -4);
        DUE.is("secret 40", x.tells(0, 40), -6);
        DUE.is("secret 0", x.tells(0, 0), 1);
        DUE.is("secret 39", x.tells(0, 39), 1);
        DUE.is("the least", x.above(0, 0), 0);
        DUE.is("the next", x.above(0, 1), 39);
        DUE.is("the greatest", x.above(0, 39), 39);
        Due.told(x, 0, 1, 38);
        DUE.is("all", x.person(0, 3), 40);
        for (int secret = 0; secret < 40; secret++) {
            DUE.is("he knows " + secret, x.knows(0, secret), 1);
            DUE.is("the least from " + secret + " on", x.above(0, secret), secret);
            DUE.is(secret + " once more", x.tells(0, secret), 0);
        }
        DUE.is("all once more", x.person(0, 3), 40);
    }

    /** A lover writes three a day: the 40th alone on the 14th day. */
    private static void writtenSecrets() {
        DUE.about("and has WRITTEN SECRETS (none at first)");
        MayReadPencil x = Due.told(Due.with("p10;p10;"), 0, 0, 39);
        DUE.is("none", x.person(0, 4), 0);
        x.days(13);
        DUE.is("all but one", x.person(0, 4), 39);
        DUE.is("three in a letter", x.letter(0, 4), 3);
        x.days(1);
        DUE.is("all", x.person(0, 4), 40);
        DUE.is("one in the last letter", x.letter(0, 4), 1);
        DUE.is("which is", x.letter(0, 5), 39);
        x.days(1);
        DUE.is("no letter is left to write", x.count(5), 0);
        DUE.is("all are written", x.person(0, 4), 40);
        DUE.is("all are known", x.person(1, 3), 40);
    }

    /** Six lovers write a letter each a day, of which she has three: 6, 9, .. 24 behind seven days. */
    private static void fullBag() {
        DUE.about("LETTERS as they were posted (24 at most)");
        MayReadPencil x = allKnowAll();
        DUE.is("an empty bag", x.count(5), 0);
        DUE.is("it has no letter", x.letter(0, 0), -1);
        x.days(6);
        DUE.is("21 letters", x.count(5), 21);
        x.days(1);
        DUE.is("24 letters", x.count(5), 24);
        DUE.is("the 24th", x.letter(23, 0), 5);
        DUE.is("a 25th", x.letter(24, 0), -1);
        DUE.is("she has the 24th behind 8 days", x.lamp(23), 8);
        DUE.is("she has no 25th", x.lamp(24), -1);
        x.days(1);
        DUE.is("no more than 24", x.count(5), 24);
        DUE.is("the 24th is the third one's", x.letter(23, 0), 2);
        x.days(60);
        DUE.is("all is written and had in the end", x.count(5), 0);
    }

    private static MayReadPencil allKnowAll() {
        MayReadPencil x = Due.with("p10;p10;p10;p10;p10;p10;");
        for (int one = 0; one < 6; one++) {
            Due.told(x, one, 0, 39);
        }
        return x;
    }

    /** Of a letter written behind so many days, had on the next: its lead and whether she knows what is in it. */
    private static void inkOrLead(String village, int day, int lead, int read) {
        MayReadPencil x = Due.with(village);
        x.days(day);
        DUE.is("lead of " + village, x.letter(0, 2), lead);
        x.days(1);
        DUE.is("she knows of " + village, x.knows(-1, 5), read);
        DUE.is("he knows of " + village, x.knows(1, 5), 1);
    }

    private static void ink() {
        DUE.about("a LEAD (0 is ink; 1 .. 9)");
        inkOrLead("p09;p10;d03;k005;", 3, 0, 0);
        inkOrLead("p10;p10;k005;", 1, 1, 1);
        inkOrLead("p30;p10;d05;k005;", 5, 9, 1);
        inkOrLead("p33;p10;k005;", 5, 9, 1);
        inkOrLead("p30;p10;k005;", 5, 0, 0);
        inkOrLead("p60;p10;k005;", 3, 3, 1);
        inkOrLead("p69;p10;k005;", 7, 0, 0);
        for (int kind = 0; kind < 8; kind++) {
            for (int figure = 0; figure < 10; figure++) {
                MayReadPencil x = Due.with("p" + kind + figure + ";");
                for (int day = 1; day <= 12; day++) {
                    int lead = x.person(0, 5);
                    DUE.isSo("a lead of " + lead, lead >= 0 && lead <= 9);
                    x.days(1);
                }
            }
        }
    }

    private static void herSecrets() {
        DUE.about("SHE KNOWS SECRETS (none at first)");
        MayReadPencil x = new MayReadPencil();
        DUE.is("none", x.count(6), 0);
        DUE.is("no least", x.above(-1, 0), -9);
        DUE.is("secret -1", x.tells(-1, -1), -4);
        DUE.is("secret 40", x.tells(-1, 40), -6);
        DUE.is("secret 0", x.tells(-1, 0), 1);
        DUE.is("secret 39", x.tells(-1, 39), 1);
        DUE.is("two", x.count(6), 2);
        Due.told(x, -1, 0, 39);
        DUE.is("all", x.count(6), 40);
        DUE.is("the greatest", x.above(-1, 39), 39);
    }

    private static void forbiddenSecrets() {
        DUE.about("FORBIDS SECRETS (none at first)");
        MayReadPencil x = new MayReadPencil();
        DUE.is("none", x.count(7), 0);
        DUE.is("secret -1", x.forbids(-1), -4);
        DUE.is("secret 40", x.forbids(40), -6);
        for (int secret = 0; secret < 40; secret++) {
            DUE.is("forbids " + secret, x.forbids(secret), 1);
        }
        DUE.is("all", x.count(7), 40);
        for (int secret = 0; secret < 40; secret++) {
            DUE.is("forbids " + secret + " no more", x.forbids(secret), 0);
        }
        DUE.is("none again", x.count(7), 0);
    }

    private static void rubber() {
        DUE.about("has a RUBBER (0 .. 18; 6 at first)");
        MayReadPencil x = new MayReadPencil();
        DUE.is("at first", x.count(2), 6);
        DUE.is("rubber -1", x.rubber(-1), -4);
        DUE.is("rubber 19", x.rubber(19), -6);
        DUE.is("rubber 18", x.rubber(18), 6);
        DUE.is("rubber 0", x.rubber(0), 18);
        DUE.is("at last", x.count(2), 0);
    }

    /**
     * No run of calls comes to 999 or 9999. Each of six writes each of 40 secrets once (what is taken back or restored
     * is taken from the drawer and the rubbed, too), so neither is ever above 240; this run comes to 240 of both.
     */
    private static void drawerAndRubbed() {
        DUE.about("DRAWER: how many LETTERS are in it (0 .. 999; 0 at first). "
                + "RUBBED: how many CLAUSES were (0 .. 9999; 0 at first).");
        MayReadPencil x = Due.with("p33;p33;p33;p33;p33;p33;");
        DUE.is("drawer at first", x.count(3), 0);
        DUE.is("rubbed at first", x.count(4), 0);
        x.rubber(18);
        for (int secret = 0; secret < 40; secret++) {
            x.forbids(secret);
            for (int one = 0; one < 6; one++) {
                x.tells(one, secret);
            }
        }
        for (int i = 0; i < 3; i++) {
            x.days(60);
        }
        // The last six are written on the 200th day; she has three on each of the next two.
        x.days(20);
        DUE.is("drawer before the last six", x.count(3), 234);
        x.days(1);
        DUE.is("drawer before the last three", x.count(3), 237);
        DUE.is("rubbed before the last three", x.count(4), 237);
        x.days(1);
        DUE.is("drawer", x.count(3), 240);
        DUE.is("rubbed", x.count(4), 240);
        x.days(60);
        DUE.is("drawer later", x.count(3), 240);
        DUE.is("rubbed later", x.count(4), 240);
        DUE.is("in mind", x.then(60, 1) + x.then(60, 2), 480);
    }

    private static void days() {
        DUE.about("DAY (0 .. 999; 0 at first)");
        MayReadPencil x = new MayReadPencil();
        DUE.is("at first", x.count(1), 0);
        for (int i = 0; i < 16; i++) {
            x.days(60);
        }
        DUE.is("40 days from day 960", x.days(40), -6);
        DUE.is("39 days from day 960", x.days(39), 0);
        DUE.is("the last day", x.count(1), 999);
        DUE.is("a day more", x.days(1), -6);
        DUE.is("it is the last day still", x.count(1), 999);
        DUE.about("n DAYS go by: how many SECRETS SHE KNOWS. -4 1; -6 (60; DAY above 999).");
        MayReadPencil y = new MayReadPencil();
        DUE.is("no day", y.days(0), -4);
        DUE.is("61 days", y.days(61), -6);
        DUE.is("none went by", y.count(1), 0);
        DUE.is("a day", y.days(1), 0);
        DUE.is("day 1", y.count(1), 1);
        DUE.is("60 days", y.days(60), 0);
        DUE.is("day 61", y.count(1), 61);
    }

    private static void kinds() {
        DUE.about("KINDS: 0 WRITER; 1 LOVER under WRITER;");
        MayReadPencil x = new MayReadPencil();
        DUE.is("kind -1", x.comes(-1, 0), -2);
        DUE.is("kind 0", x.comes(0, 0), 0);
        DUE.is("kind of the first", x.person(0, 0), 0);
        DUE.about("7 DESERTER under CHILD.");
        DUE.is("kind 8", x.comes(8, 0), -2);
        DUE.is("kind 7", x.comes(7, 0), 1);
        DUE.is("kind of the second", x.person(1, 0), 7);
    }

    /** The leads on the days from a told one on. */
    private static void lead(int kind, int figure, int day, int... leads) {
        MayReadPencil x = new MayReadPencil();
        x.comes(kind, figure);
        if (day > 1) {
            x.days(day - 1);
        }
        for (int i = 0; i < leads.length; i++) {
            DUE.is("kind " + kind + ", figure " + figure + ", day " + (day + i), x.person(0, 5), leads[i]);
            x.days(1);
        }
    }

    private static void leads() {
        DUE.about("WRITER 0 if d is even, else FIGURE");
        lead(0, 0, 1, 0, 0, 0);
        lead(0, 9, 1, 9, 0, 9);
        DUE.about("LOVER half of FIGURE, cut, plus 1");
        lead(1, 0, 1, 1);
        lead(1, 1, 1, 1);
        lead(1, 2, 1, 2);
        lead(1, 8, 1, 5);
        lead(1, 9, 1, 5);
        DUE.about("SOLDIER 4, 1, 7 for d modulo 3 of 0, 1, 2");
        lead(2, 0, 1, 1, 7, 4, 1, 7, 4);
        DUE.about("BANK 9 if 2 more than FIGURE divides d, else 0");
        lead(3, 0, 1, 0, 9, 0, 9);
        lead(3, 9, 10, 0, 9, 0);
        lead(3, 9, 21, 0, 9, 0);
        DUE.about("SPY as a BANK, but 5 where that is 0 and d is odd");
        lead(4, 0, 1, 5, 9, 5, 9);
        lead(4, 9, 10, 0, 9, 0, 5);
        lead(4, 9, 21, 5, 9, 5, 0);
        DUE.about("WIDOW 2 more than a LOVER's");
        lead(5, 0, 1, 3);
        lead(5, 1, 1, 3);
        lead(5, 9, 1, 7);
        DUE.about("CHILD 1 less than a SOLDIER's");
        lead(6, 0, 1, 0, 6, 3, 0);
        DUE.about("DESERTER 9 less a CHILD's");
        lead(7, 0, 1, 9, 3, 6, 9);
    }

    /** On DAY 999 one tells his LEAD on day 1000, which no call of days() comes to. */
    private static void leadsOnTheLastDay() {
        DUE.about("LEAD on the next DAY (5)");
        MayReadPencil x = Due.with("p07;p17;p27;p38;p37;p47;");
        int[] first = {7, 4, 1, 0, 0, 5};
        for (int one = 0; one < 6; one++) {
            DUE.is("lead on day 1 of " + one, x.person(one, 5), first[one]);
        }
        for (int i = 0; i < 16; i++) {
            x.days(60);
        }
        x.days(39);
        int[] last = {0, 4, 1, 9, 0, 0};
        for (int one = 0; one < 6; one++) {
            DUE.is("lead on day 1000 of " + one, x.person(one, 5), last[one]);
        }
    }

    /** What 6 (PRESS) or 7 (EVERY) answers for the figures 0 .. 9. */
    private static void byFigures(int kind, int what, int... due) {
        for (int figure = 0; figure < 10; figure++) {
            MayReadPencil x = new MayReadPencil();
            x.comes(kind, figure);
            DUE.is("kind " + kind + ", figure " + figure, x.person(0, what), due[figure]);
        }
    }

    private static void presses() {
        DUE.about("LOVER twice a WRITER's plus (FIGURE over 3, cut)");
        byFigures(1, 6, 4, 4, 4, 5, 5, 5, 6, 6, 6, 7);
        DUE.about("WIDOW 3 less than a LOVER's");
        byFigures(5, 6, 1, 1, 1, 2, 2, 2, 3, 3, 3, 4);
        DUE.about("PRESS: WRITER 2;");
        byFigures(0, 6, 2, 2, 2, 2, 2, 2, 2, 2, 2, 2);
        DUE.about("SOLDIER 1; BANK 5; SPY 0;");
        byFigures(2, 6, 1, 1, 1, 1, 1, 1, 1, 1, 1, 1);
        byFigures(3, 6, 5, 5, 5, 5, 5, 5, 5, 5, 5, 5);
        byFigures(4, 6, 0, 0, 0, 0, 0, 0, 0, 0, 0, 0);
        DUE.about("CHILD 4 more than a SOLDIER's; DESERTER as a CHILD");
        byFigures(6, 6, 5, 5, 5, 5, 5, 5, 5, 5, 5, 5);
        byFigures(7, 6, 5, 5, 5, 5, 5, 5, 5, 5, 5, 5);
    }

    private static void everies() {
        DUE.about("SOLDIER FIGURE over 2, cut, plus 2");
        byFigures(2, 7, 2, 2, 3, 3, 4, 4, 5, 5, 6, 6);
        DUE.about("CHILD 1 more than a SOLDIER's; DESERTER twice a CHILD's");
        byFigures(6, 7, 3, 3, 4, 4, 5, 5, 6, 6, 7, 7);
        byFigures(7, 7, 6, 6, 8, 8, 10, 10, 12, 12, 14, 14);
        DUE.about("EVERY (he writes on DAYS that it divides)");
        MayReadPencil x = Due.with("p79;p10;k005;d13;");
        DUE.is("the day before", x.count(5), 0);
        x.days(1);
        DUE.is("on the day", x.count(5), 1);
        x.tells(0, 6);
        x.days(13);
        DUE.is("the day before the next", x.count(5), 0);
        x.days(1);
        DUE.is("on the next", x.count(5), 1);
        MayReadPencil daily = Due.with("p10;p10;k005;");
        daily.days(1);
        DUE.is("on each day, the first too", daily.count(5), 1);
    }

    private static void threeLetters() {
        DUE.about("Then SHE has the first 3 LETTERS of the BAG (all, if they are fewer), one by one; "
                + "each is no more in it.");
        for (int letters = 0; letters <= 5; letters++) {
            MayReadPencil x = Due.with(FIVE_TO_ONE);
            for (int one = 1; one <= letters; one++) {
                x.tells(one, one);
            }
            x.days(1);
            DUE.is("letters", x.count(5), letters);
            DUE.is("had of " + letters, x.days(1), Math.min(3, letters));
            DUE.is("left of " + letters, x.count(5), Math.max(0, letters - 3));
            DUE.is("the first left of " + letters, x.letter(0, 5), letters > 3 ? 4 : -1);
            DUE.is("all of " + letters, x.days(1), letters);
        }
    }

    /** Two letters to 0: what she puts into the first he knows before the second, and 2 she reads from the second. */
    private static void oneByOne() {
        DUE.about("Of each: if LEAD is not 0, SHE KNOWS its CLAUSES then, too,");
        MayReadPencil x = Due.with(FIVE_TO_ONE, "k101;k202;x01;");
        x.days(1);
        DUE.is("nothing is known by her before", x.count(6), 0);
        x.days(1);
        DUE.is("the first letter has nothing to be put in yet", x.count(3), 1);
        DUE.is("the second comes", x.knows(0, 2), 1);
        MayReadPencil y = Due.with(FIVE_TO_ONE, "k102;k201;x01;");
        y.days(2);
        DUE.is("what the first letter told him is not put into the second", y.count(3), 1);
        MayReadPencil z = Due.with(FIVE_TO_ONE, "k101;k201;k301;x01;s07;s08;d02;");
        DUE.is("7 is put into the first, 8 into the second, nothing into the third", z.count(3), 1);
        DUE.is("both come", z.person(0, 3), 2);
    }

    /** A village, behind so many days, has a letter that a rubber of the sum rubs out, and one less does not. */
    private static void softest(String village, int day, int sum) {
        for (int rubber = 0; rubber <= 18; rubber++) {
            MayReadPencil x = Due.with(village);
            x.days(day);
            x.forbids(5);
            x.rubber(rubber);
            x.days(1);
            DUE.is("rubbed of " + village + " by " + rubber, x.count(4), rubber >= sum ? 1 : 0);
            DUE.is("drawer of " + village + " by " + rubber, x.count(3), rubber >= sum ? 1 : 0);
            DUE.is("he knows of " + village + " by " + rubber, x.knows(1, 5), rubber >= sum ? 0 : 1);
        }
    }

    /** No lead and press but ink's are below 2 or above 14 together. */
    private static void softEnough() {
        DUE.about("if LEAD and PRESS together are RUBBER at most,");
        softest("p20;p10;d03;k005;", 1, 2);
        softest("p10;p10;k005;", 1, 5);
        softest("p19;p10;k005;", 1, 12);
        softest("p33;p10;k005;", 5, 14);
        softest("p70;p10;k005;", 6, 11);
        DUE.about("if LEAD is not 0,");
        softest("p00;p10;k005;", 3, 19);
        softest("p30;p10;k005;", 5, 19);
    }

    /** A lover's letter of 5, 6 and 7, of which she forbids some. */
    private static void rubbed(String forbids, int rubbed, int known, int drawer) {
        MayReadPencil x = Due.with("p10;p10;k005;k006;k007;d01;", forbids + "d01;");
        DUE.is("rubbed by " + forbids, x.count(4), rubbed);
        DUE.is("known by " + forbids, x.person(1, 3), known);
        DUE.is("drawer by " + forbids, x.count(3), drawer);
        DUE.is("she knows by " + forbids, x.count(6), 3);
    }

    private static void rubbedOut() {
        DUE.about("CLAUSES that SHE FORBIDS are RUBBED out of it (RUBBED is more by how many; 9999 held)");
        rubbed("", 0, 3, 0);
        rubbed("x08;", 0, 3, 0);
        rubbed("x05;", 1, 2, 0);
        rubbed("x07;", 1, 2, 0);
        rubbed("x05;x07;", 2, 1, 0);
        rubbed("x05;x06;x07;", 3, 0, 1);
        MayReadPencil ends = Due.with("p10;p10;k000;k039;x00;x39;d02;");
        DUE.is("secrets 0 and 39", ends.count(4), 2);
    }

    /** A letter of 5, forbidden; what is put in, or -9. */
    private static void word(String more, int due) {
        MayReadPencil x = Due.with("p10;p10;k005;x05;d01;", more);
        x.days(1);
        DUE.is("put in with " + more, x.above(1, 0), due);
        DUE.is("drawer with " + more, x.count(3), due == -9 ? 1 : 0);
        DUE.is("rubbed with " + more, x.count(4), 1);
    }

    private static void putIn() {
        DUE.about("is none left by that, SHE puts in the least SECRET that SHE KNOWS, does not FORBID, "
                + "and whom it is TO does not KNOW.");
        word("r06;", -9);
        word("s05;", -9);
        word("s00;", 0);
        word("s39;", 39);
        word("s38;s39;", 38);
        word("s39;x39;", -9);
        word("s38;s39;x38;", 39);
        MayReadPencil known = Due.with("p10;p10;k005;x05;d01;", "s39;k139;d01;");
        DUE.is("he knows it: nothing is put in", known.count(3), 1);
        MayReadPencil all = Due.told(Due.with("p10;p10;k005;x05;k105;"), -1, 0, 39);
        Due.told(all, 1, 0, 39).days(2);
        DUE.is("he knows all that she does", all.count(3), 1);
        MayReadPencil left = Due.with("p10;p10;k005;k006;x05;s01;d02;");
        DUE.is("one is left: nothing is put in", left.knows(1, 1), 0);
        DUE.is("one is left: it comes", left.knows(1, 6), 1);
        MayReadPencil none = Due.with("p10;p10;k005;s01;d02;");
        DUE.is("none is rubbed: nothing is put in", none.knows(1, 1), 0);
    }

    private static void spoilt() {
        DUE.about("A LETTER without CLAUSES then goes to the DRAWER (1 more; 999 held); "
                + "else whom it is TO KNOWS its CLAUSES then, too.");
        MayReadPencil x = Due.with(FIVE_TO_ONE, "k105;k205;k305;k405;x05;d01;");
        x.days(1);
        DUE.is("three a night", x.count(3), 3);
        x.days(1);
        DUE.is("the fourth", x.count(3), 4);
        DUE.is("he knows none", x.person(0, 3), 0);
        x.days(60);
        DUE.is("no more", x.count(3), 4);
        MayReadPencil known = Due.with("p10;p10;k005;k105;d02;");
        DUE.is("what he knows comes, too", known.count(3), 0);
        DUE.is("he knows no more", known.person(1, 3), 1);
    }

    private static void otherFriends() {
        DUE.about("who write on that DAY and whose FRIEND is there and another one:");
        MayReadPencil x = Due.with("p10;k005;f05;d01;");
        DUE.is("nobody is 5", x.count(5), 0);
        Due.post(x, "p10;p10;p10;p10;d01;");
        DUE.is("nobody is 5 among five", x.count(5), 0);
        Due.post(x, "p10;d01;");
        DUE.is("the sixth is 5", x.count(5), 1);
        DUE.is("it is to him", x.letter(0, 1), 5);
        MayReadPencil own = Due.with("p10;k005;f00;d01;");
        DUE.is("his own", own.count(5) + own.person(0, 4), 0);
        MayReadPencil last = Due.with("p10;p10;p10;p10;p10;p10;k505;d01;");
        DUE.is("the last one's friend is the first", last.letter(0, 1), 0);
    }

    /** Of the first letter of one who knows so many secrets, from a least one on: how many, the least, the greatest. */
    private static void picked(int kind, int figure, int day, int[] known, int many, int least, int greatest) {
        MayReadPencil x = Due.with("p" + kind + figure + ";p10;");
        for (int secret : known) {
            x.tells(0, secret);
        }
        x.days(day);
        String told = "kind " + kind + " who knows " + known.length;
        DUE.is(told + ": letters", x.count(5), known.length > 0 ? 1 : 0);
        DUE.is(told + ": clauses", x.letter(0, 4), many);
        DUE.is(told + ": least", x.letter(0, 5), least);
        DUE.is(told + ": greatest", x.letter(0, 6), greatest);
        DUE.is(told + ": written", x.person(0, 4), Math.max(0, many));
    }

    private static void picks() {
        DUE.about("the first PICKS of them (as many as there are, if they are fewer; by numbers from the least, "
                + "of BACKWARD ones from the greatest)");
        picked(1, 0, 1, new int[] {0}, 1, 0, 0);
        picked(1, 0, 1, new int[] {0, 39}, 2, 0, 39);
        picked(1, 0, 1, new int[] {0, 38, 39}, 3, 0, 39);
        picked(1, 0, 1, new int[] {0, 1, 38, 39}, 3, 0, 38);
        picked(7, 0, 6, new int[] {39}, 1, 39, 39);
        picked(7, 0, 6, new int[] {0, 39}, 2, 0, 39);
        picked(7, 0, 6, new int[] {0, 1, 39}, 3, 0, 39);
        picked(7, 0, 6, new int[] {0, 1, 38, 39}, 3, 1, 39);
        picked(4, 0, 3, new int[] {0, 1, 39}, 2, 1, 39);
        picked(0, 0, 3, new int[] {0, 39}, 1, 0, 0);
        picked(0, 0, 3, new int[] {39}, 1, 39, 39);
        picked(2, 0, 2, new int[] {0, 1, 39}, 2, 0, 1);
        picked(5, 0, 3, new int[] {0, 1, 39}, 2, 0, 1);
        picked(6, 0, 3, new int[] {0, 1, 39}, 2, 0, 1);
        picked(3, 0, 5, new int[] {0, 39}, 1, 0, 0);
        DUE.about("is there at least one,");
        picked(1, 0, 1, new int[] {}, -1, -1, -1);
        MayReadPencil again = Due.with("p10;p10;k005;d02;");
        DUE.is("what is written is written no more", again.count(5), 0);
    }

    private static void noRoomInTheBag() {
        DUE.about("and room in the BAG,");
        MayReadPencil x = allKnowAll();
        x.days(7);
        DUE.is("it is full", x.count(5), 24);
        DUE.is("the fourth has written", x.person(3, 4), 21);
        x.days(1);
        DUE.is("the first three find room", x.person(2, 4), 24);
        DUE.is("the fourth finds none, and nothing is written", x.person(3, 4), 21);
        DUE.is("the last one's are recalled", x.recalls(5), 4);
        x.days(1);
        DUE.is("three are had, and all six find room", x.count(5), 24 - 4 - 3 + 6);
    }

    private static void recalled() {
        DUE.about("His LETTERS are no more in the BAG (WRITTEN stays): how many. -1.");
        MayReadPencil x = Due.with(FIVE_TO_ONE, "k105;k205;k305;k405;k505;d01;");
        DUE.is("nobody's", x.recalls(-1), -1);
        DUE.is("the seventh's", x.recalls(6), -1);
        DUE.is("the first one's, none", x.recalls(0), 0);
        DUE.is("all are left", x.count(5), 5);
        DUE.is("the last", x.recalls(5), 1);
        DUE.is("the first", x.recalls(1), 1);
        DUE.is("those between are left", x.count(5), 3);
        DUE.is("the first left", x.letter(0, 0), 2);
        DUE.is("the last left", x.letter(2, 0), 4);
        DUE.is("once more", x.recalls(1), 0);
        DUE.is("it is written", x.person(1, 4), 1);
        x.recalls(2);
        x.recalls(3);
        x.recalls(4);
        DUE.is("an empty bag", x.count(5), 0);
        DUE.is("of an empty bag", x.recalls(4), 0);
        MayReadPencil several = allKnowAll();
        several.days(8);
        for (int one = 0; one < 3; one++) {
            DUE.is("of " + one + ", days 5 to 8", several.recalls(one), 4);
        }
        for (int one = 3; one < 6; one++) {
            DUE.is("of " + one + ", days 4 to 7", several.recalls(one), 4);
        }
        DUE.is("all are recalled", several.count(5), 0);
    }
}
