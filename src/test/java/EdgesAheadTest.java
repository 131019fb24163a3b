import java.math.BigInteger;
import java.util.ArrayList;
import java.util.HashSet;
import java.util.List;
import java.util.Set;

/** The boundary cases of part II: a test for each sentence of the document that names one. */
public final class EdgesAheadTest {
    private static final Due DUE = new Due("edges of part II");
    private static final BigInteger INTS = BigInteger.ONE.shiftLeft(32);

    public static void main(String[] args) {
        daysOn();
        pastTheLastDay();
        when();
        first();
        firstOfSeveral();
        letHer();
        letHerSecrets();
        rubberDays();
        rubbers();
        inkDays();
        inkPeople();
        friendDays();
        friendsThere();
        swapDays();
        swapPairs();
        shadeDays();
        shadeBelowNothing();
        whatKind();
        toWhom();
        twoDays();
        twoChoices();
        dampDays();
        dampOdds();
        games();
        gamesWithoutPeople();
        seeds();
        twelveDays();
        DUE.end();
    }

    /**
     * 0, a bank of figure 3, writes secret i to 1 on the day 5 times (i + 1), in a lead of 9; it is had on the next.
     * 1 has no friend.
     */
    private static MayReadPencil slowBank(int greatest, int day) {
        MayReadPencil x = Due.told(Due.with("p33;p10;"), 0, 0, greatest);
        return on(x, day);
    }

    private static MayReadPencil on(MayReadPencil x, int day) {
        if (day > 0) {
            x.days(day);
        }
        return x;
    }

    private static MayReadPencil onTheLastDay(String village) {
        MayReadPencil x = Due.with(village);
        for (int i = 0; i < 16; i++) {
            x.days(60);
        }
        x.days(39);
        return x;
    }

    private static MayReadPencil busy() {
        return Due.with("p10;p25;p79;p33;f30;k005;k006;k107;k208;k309;x07;s01;r12;");
    }

    private static void daysOn() {
        DUE.about("In mind, n DAYS on (0 .. 60;");
        for (int n = 0; n <= 60; n++) {
            MayReadPencil x = busy();
            MayReadPencil then = on(busy(), n);
            int[] counts = {5, 3, 4};
            for (int what = 0; what < 3; what++) {
                DUE.is("then(" + n + ", " + what + ")", x.then(n, what), then.count(counts[what]));
            }
            int together = 0;
            for (int one = 0; one < 4; one++) {
                together += then.person(one, 3);
                DUE.is("knownIn(" + one + ", " + n + ")", x.knownIn(one, n), then.person(one, 3));
            }
            DUE.is("then(" + n + ", 3)", x.then(n, 3), together);
            DUE.is("knownIn(-1, " + n + ")", x.knownIn(-1, n), then.count(6));
        }
        MayReadPencil x = busy();
        DUE.is("knownIn, -1 days", x.knownIn(0, -1), -4);
        DUE.is("knownIn, 61 days", x.knownIn(0, 61), -6);
        DUE.is("then, -1 days", x.then(-1, 0), -4);
        DUE.is("then, 61 days", x.then(61, 0), -6);
        MayReadPencil none = new MayReadPencil();
        for (int what = 0; what < 4; what++) {
            DUE.is("nobody there, " + what, none.then(60, what), 0);
        }
        DUE.is("nobody there, she", none.knownIn(-1, 60), 0);
    }

    /** A writer of figure 0 writes on day 1002, in ink; it is had on day 1003. */
    private static void pastTheLastDay() {
        DUE.about("DAY may pass 999 there");
        MayReadPencil x = Due.told(onTheLastDay("p00;p00;"), 0, 5, 5);
        DUE.is("no letter on day 1001", x.then(2, 0), 0);
        DUE.is("a letter on day 1002", x.then(3, 0), 1);
        DUE.is("known on day 1002", x.knownIn(1, 3), 0);
        DUE.is("known on day 1003", x.knownIn(1, 4), 1);
        DUE.is("known on day 1059", x.then(60, 3), 2);
        DUE.is("when", x.when(1, 5), 4);
        DUE.is("first", x.first(5), 1);
        DUE.is("friendFor", x.friendFor(0, 1, 5, 1), 4);
        DUE.is("rubberFor", x.rubberFor(1, 5, 3), 0);
        DUE.is("rubberFor, a day more", x.rubberFor(1, 5, 4), -9);
        DUE.is("ink", x.ink(5, 30), 0);
        DUE.is("shade", x.shade(60), 0);
        DUE.is("swap", x.swap(30), -9);
        DUE.is("two", x.two(0, 1, 30), 0);
        DUE.is("letHer", x.letHer(1, 30, 0), -9);
        DUE.is("damp, 3 days", x.damp(1, 5, 3, 2, 0), 0);
        DUE.is("damp, 4 days", x.damp(1, 5, 4, 2, 0), 1);
        DUE.is("the longest still run", x.bag(1), 56);
        DUE.is("games", x.lots(20, 1, 1), 0);
        Due.withRow(x, 1, 1, 1, 1, 2);
        DUE.is("he himself knows no more", x.toWhom(0, 0), 0);
        x.clear();
        Due.withRow(x, 0, 0, 0, 0, 1);
        DUE.is("to whom he must write", x.toWhom(1, 0), 2);
        DUE.is("it is the last day still", x.count(1), 999);
        MayReadPencil writer = onTheLastDay("p07;");
        Due.withRow(writer, 0, 7, 0);
        DUE.is("leads of day 1000, 1001, 1002", writer.whatKind(0, 1), 1 << 7);
    }

    private static void when() {
        DUE.about("WHEN: behind how many DAYS (0 .. 60) one, or SHE, KNOWS a SECRET first; -9.");
        MayReadPencil early = slowBank(11, 0);
        DUE.is("he knows it", early.when(0, 11), 0);
        DUE.is("had on day 56", early.when(1, 10), 56);
        DUE.is("had on day 61", early.when(1, 11), -9);
        DUE.is("she, had on day 56", early.when(-1, 10), 56);
        DUE.is("she, had on day 61", early.when(-1, 11), -9);
        MayReadPencil late = slowBank(11, 1);
        DUE.is("60 days on", late.when(1, 11), 60);
        DUE.is("she, 60 days on", late.when(-1, 11), 60);
        DUE.is("nobody knows it", late.when(1, 12), -9);
        MayReadPencil soon = Due.with("p10;p10;k000;d01;s39;");
        DUE.is("a day on", soon.when(1, 0), 1);
        DUE.is("she knows 39", soon.when(-1, 39), 0);
        DUE.is("secret -1", soon.when(0, -1), -4);
        DUE.is("secret 40", soon.when(0, 40), -6);
    }

    private static void first() {
        DUE.about("FIRST: who of those who don't KNOW it KNOWS it first, of several the least; -9.");
        DUE.is("61 days on", slowBank(11, 0).first(11), -9);
        DUE.is("60 days on", slowBank(11, 1).first(11), 1);
        DUE.is("secret -1", slowBank(0, 0).first(-1), -4);
        DUE.is("secret 40", slowBank(0, 0).first(40), -6);
        DUE.is("nobody knows it", slowBank(0, 0).first(39), -9);
        DUE.is("nobody is there", new MayReadPencil().first(0), -9);
        DUE.is("she knows it first, and is none of people", Due.with("p10;p10;k005;x05;").first(5), -9);
        MayReadPencil all = Due.with("p10;p10;f10;k000;k039;k100;k139;");
        DUE.is("all know 0", all.first(0), -9);
        DUE.is("all know 39", all.first(39), -9);
        DUE.is("secret 0", Due.with("p10;p10;k000;").first(0), 1);
        DUE.is("secret 39", Due.with("p10;p10;k039;").first(39), 1);
    }

    /** 3 and 4 write on the same day, to 2 and to 1. */
    private static void firstOfSeveral() {
        DUE.about("FIRST: who of those who don't KNOW it KNOWS it first, of several the least;");
        MayReadPencil x = Due.with("p00;p00;p00;p10;p10;f32;f41;k305;k405;");
        DUE.is("on one day", x.first(5), 1);
        x.tells(1, 5);
        DUE.is("of those who don't know it", x.first(5), 2);
        DUE.is("the very first", Due.with("p10;p10;f10;k105;").first(5), 0);
        MayReadPencil six = Due.with("p10;p10;p10;p10;p10;p10;f50;k405;");
        DUE.is("the last of six", six.first(5), 5);
        DUE.is("none of six", six.first(6), -9);
    }

    /** 5 is rubbed out on the 31st day, and 6 could be put in then: he knows 0 .. 4 and 39 besides. */
    private static void letHer() {
        DUE.about("lets one KNOW most behind n DAYS (0 .. 30), more than as it is, of several the least; -9;");
        for (int day = 0; day <= 1; day++) {
            MayReadPencil x = slowBank(5, 0);
            Due.post(x, "x05;r18;k139;");
            on(x, day);
            DUE.is("30 days from day " + day, x.letHer(1, 30, 0), day == 0 ? -9 : 6);
            DUE.is("how many he knows", x.letHer(1, 30, 1), day == 0 ? -9 : 7);
            DUE.is("29 days from day " + day, x.letHer(1, 29, 0), -9);
            DUE.is("no day", x.letHer(1, 0, 0), -9);
            DUE.is("-1 days", x.letHer(1, -1, 0), -4);
            DUE.is("31 days", x.letHer(1, 31, 0), -6);
            x.tells(-1, 6);
            DUE.is("no more than as it is", x.letHer(1, 30, 0), -9);
            DUE.is("no more than as it is: how many", x.letHer(1, 30, 1), -9);
        }
    }

    private static void letHerSecrets() {
        DUE.about("LET HER: the SECRET which, KNOWN to HER from now,");
        MayReadPencil x = Due.with("p10;p10;k005;x05;");
        DUE.is("the least", x.letHer(1, 2, 0), 0);
        for (int secret = 0; secret < 39; secret++) {
            if (secret != 5) {
                x.forbids(secret);
            }
        }
        DUE.is("the greatest", x.letHer(1, 2, 0), 39);
        DUE.is("how many he knows", x.letHer(1, 2, 1), 1);
        x.forbids(39);
        DUE.is("all are forbidden", x.letHer(1, 2, 0), -9);
        DUE.is("all are forbidden: how many", x.letHer(1, 2, 1), -9);
        DUE.is("nothing is forbidden", Due.with("p10;p10;k005;").letHer(1, 30, 0), -9);
        DUE.is("she knows 0 already, and he none", Due.with("p10;p10;k005;x05;s00;").letHer(1, 1, 0), -9);
        DUE.is("she puts in 0 as it is", Due.with("p10;p10;k005;x05;s00;").letHer(1, 2, 0), -9);
    }

    private static void rubberDays() {
        DUE.about("RUBBER: the least (0 .. 18) by which, had from now, one does not KNOW a SECRET "
                + "behind n DAYS (0 .. 60); -9.");
        for (int day = 0; day <= 1; day++) {
            MayReadPencil x = slowBank(11, 0);
            x.forbids(11);
            on(x, day);
            DUE.is("60 days from day " + day, x.rubberFor(1, 11, 60), day == 0 ? 0 : 14);
            DUE.is("59 days from day " + day, x.rubberFor(1, 11, 59), 0);
            DUE.is("-1 days", x.rubberFor(1, 11, -1), -4);
            DUE.is("61 days", x.rubberFor(1, 11, 61), -6);
            DUE.is("secret -1", x.rubberFor(1, -1, 0), -4);
            DUE.is("secret 40", x.rubberFor(1, 40, 0), -6);
            DUE.is("he knows it, no day", x.rubberFor(0, 11, 0), -9);
            DUE.is("he does not, no day", x.rubberFor(1, 11, 0), 0);
        }
    }

    /**
     * LEAD and PRESS together are 14 at most (a bank's 9 and 5, a deserter's 9 and 5), and by 15 .. 18 nothing more is
     * rubbed out than by 14: no run of calls has one of these answered.
     */
    private static void rubbers() {
        DUE.about("RUBBER: the least (0 .. 18) by which,");
        String[] villages = {"p20;p10;d03;k005;x05;", "p50;p10;k005;x05;", "p10;p10;k005;x05;", "p19;p10;k005;x05;",
            "p70;p10;k005;x05;", "p33;p10;k005;x05;"};
        int[] sums = {2, 4, 5, 12, 11, 14};
        int[] had = {2, 4, 2, 2, 7, 6};
        for (int i = 0; i < villages.length; i++) {
            MayReadPencil x = Due.with(villages[i]);
            DUE.is("until the day before in " + villages[i], x.rubberFor(1, 5, had[i] - 1), 0);
            DUE.is("on the day in " + villages[i], x.rubberFor(1, 5, had[i]), sums[i]);
            x.forbids(5);
            DUE.is("not forbidden in " + villages[i], x.rubberFor(1, 5, had[i]), -9);
        }
        MayReadPencil ink = Due.with("p00;p10;k005;x05;");
        DUE.is("ink, the day before", ink.rubberFor(1, 5, 3), 0);
        DUE.is("ink", ink.rubberFor(1, 5, 4), -9);
    }

    private static void inkDays() {
        DUE.about("so that SHE does not KNOW a SECRET behind n DAYS (0 .. 30); -9.");
        for (int day = 0; day <= 1; day++) {
            MayReadPencil x = slowBank(5, day);
            DUE.is("30 days from day " + day, x.ink(5, 30), day);
            DUE.is("29 days from day " + day, x.ink(5, 29), 0);
            DUE.is("-1 days", x.ink(5, -1), -4);
            DUE.is("31 days", x.ink(5, 31), -6);
            DUE.is("secret -1", x.ink(-1, 0), -4);
            DUE.is("secret 40", x.ink(40, 0), -6);
            DUE.is("no day", x.ink(5, 0), 0);
            x.tells(-1, 5);
            DUE.is("she knows it, no day", x.ink(5, 0), -9);
            DUE.is("she knows it", x.ink(5, 30), -9);
        }
    }

    private static void inkPeople() {
        DUE.about("INK: the fewest PEOPLE (bits, of several the least)");
        MayReadPencil x = Due.with("p10;p10;p10;p10;p10;p10;k005;k105;k205;k305;k405;");
        DUE.is("the first three, whose letters she has first", x.ink(5, 2), 7);
        DUE.is("the first five", x.ink(5, 3), 31);
        DUE.is("the last, too, who hears it from the fifth", x.ink(5, 30), 63);
        x.tells(5, 5);
        DUE.is("all of them", x.ink(5, 30), 63);
        x.days(1);
        DUE.is("letters are in the bag already", x.ink(5, 1), -9);
        DUE.is("nobody is there", new MayReadPencil().ink(5, 30), 0);
        DUE.is("the last alone", Due.with("p00;p00;p00;p00;p00;p10;f50;k505;").ink(5, 2), 32);
        DUE.is("none is needed", Due.with("p00;p10;k005;").ink(5, 30), 0);
        // The first one's ink would do, or the third's: it lets 3 through to the first, who then writes that before 9.
        DUE.is("of several the least", Due.with("p01;p10;p10;f11;f20;k009;k203;x03;").ink(9, 5), 1);
        DUE.is("where the second writes 9 on, the third's alone does",
                Due.with("p01;p10;p10;f20;k009;k203;x03;").ink(9, 5), 4);
    }

    private static void friendDays() {
        DUE.about("of several the least; -9; behind how many DAYS (0 .. 60).");
        for (int day = 0; day <= 1; day++) {
            MayReadPencil x = slowBank(11, day);
            DUE.is("which, from day " + day, x.friendFor(0, 1, 11, 0), day == 0 ? -9 : 1);
            DUE.is("behind how many days, from day " + day, x.friendFor(0, 1, 11, 1), day == 0 ? -9 : 60);
            DUE.is("he knows it", x.friendFor(0, 0, 11, 0), 1);
            DUE.is("he knows it: no day", x.friendFor(0, 0, 11, 1), 0);
            DUE.is("secret -1", x.friendFor(0, 1, -1, 0), -4);
            DUE.is("secret 40", x.friendFor(0, 1, 40, 0), -6);
            DUE.is("nobody knows it", x.friendFor(0, 1, 39, 0), -9);
            DUE.is("nobody knows it: days", x.friendFor(0, 1, 39, 1), -9);
        }
    }

    private static void friendsThere() {
        DUE.about("FRIENDS: the FRIEND for one (there, another one) from now by which a told one KNOWS a SECRET first,");
        MayReadPencil one = Due.with("p10;k005;");
        DUE.is("nobody else is there", one.friendFor(0, 0, 5, 0), -9);
        DUE.is("nobody else is there: days", one.friendFor(0, 0, 5, 1), -9);
        one.comes(1, 0);
        DUE.is("another is there", one.friendFor(0, 0, 5, 0), 1);
        MayReadPencil last = Due.with("p10;p10;p10;p10;p10;p10;k005;f11;f22;f33;f44;f55;");
        DUE.is("the last of six", last.friendFor(0, 5, 5, 0), 5);
        DUE.is("the last of six: days", last.friendFor(0, 5, 5, 1), 2);
        MayReadPencil first = Due.with("p10;p10;f11;k105;");
        DUE.is("the first of two", first.friendFor(1, 0, 5, 0), 0);
        MayReadPencil several = Due.with("p10;p10;p10;p10;f13;f23;k005;");
        DUE.is("none sooner than the told one himself", several.friendFor(0, 3, 5, 0), 3);
        DUE.is("behind 2 days", several.friendFor(0, 3, 5, 1), 2);
        DUE.is("1 hears it by 0, whoever is 2's: of several the least", several.friendFor(2, 1, 5, 0), 0);
        DUE.is("1 hears it by 0, behind 2 days", several.friendFor(2, 1, 5, 1), 2);
        DUE.is("1 hears it by 0, whoever is 3's: of several the least", several.friendFor(3, 1, 5, 0), 0);
    }

    /** As a bank 0 writes 5, which 1 alone does not know, on day 30; as a deserter on day 42. */
    private static void swapDays() {
        DUE.about("let KNOWN by PEOPLE, together, be most behind n DAYS (0 .. 30), more than as it is, "
                + "of several the first; -9.");
        for (int day = 0; day <= 1; day++) {
            MayReadPencil x = Due.told(Due.with("p79;p33;"), 0, 0, 11);
            Due.told(x, 1, 0, 4);
            Due.told(x, 1, 6, 11);
            on(x, day);
            DUE.is("30 days from day " + day, x.swap(30), day == 0 ? -9 : 1);
            DUE.is("29 days from day " + day, x.swap(29), -9);
            DUE.is("no day", x.swap(0), -9);
            DUE.is("-1 days", x.swap(-1), -4);
            DUE.is("31 days", x.swap(31), -6);
        }
    }

    private static void swapPairs() {
        DUE.about("SWAP: the two (10 the lesser and the other) who, KIND and FIGURE changed now (all else stays),");
        DUE.is("nobody is there", new MayReadPencil().swap(30), -9);
        DUE.is("one alone", Due.with("p10;k005;").swap(30), -9);
        DUE.is("the first two", Due.with("p00;p10;k005;").swap(2), 1);
        DUE.is("the last two", Due.with("p00;p00;p00;p00;p00;p10;f50;k405;").swap(2), 45);
        DUE.is("the first and the last", Due.with("p00;p00;p00;p00;p00;p10;f50;k005;").swap(2), 5);
        // 0, a writer, could be what 1 or what 2 is.
        DUE.is("of several the first", Due.with("p00;p10;p10;k005;").swap(2), 1);
        // A soldier of figure 0 writes on even days, one of 9 on every sixth.
        DUE.is("the one's figure", Due.with("p29;p20;k005;").swap(3), 1);
        DUE.is("the other's figure", Due.with("p20;p29;f10;k105;").swap(3), 1);
        DUE.is("the other's kind", Due.with("p10;p00;f10;k105;").swap(2), 1);
        DUE.is("of one kind and figure", Due.with("p29;p29;k005;").swap(3), -9);
        DUE.is("more by the second: 2's letter holds three",
                Due.with("p00;p40;p10;f10;f20;k001;k002;k003;").swap(4), 2);
    }

    /** A writer of figure 5 writes secret 20, which alone she does not know, on day 63 in a lead of 5. */
    private static void shadeDays() {
        DUE.about("SHADE: by how much more SHE KNOWS n DAYS on (0 .. 60) as it is than if LEAD 5 were ink");
        for (int day = 3; day <= 4; day++) {
            MayReadPencil x = Due.told(Due.with("p05;p10;"), 0, 0, 20);
            Due.told(x, -1, 0, 19);
            on(x, day);
            DUE.is("60 days from day " + day, x.shade(60), day == 3 ? 0 : 1);
            DUE.is("59 days from day " + day, x.shade(59), 0);
            DUE.is("no day", x.shade(0), 0);
            DUE.is("-1 days", x.shade(-1), 1000000004);
            DUE.is("61 days", x.shade(61), 1000000006);
        }
        DUE.is("lead 4", Due.with("p16;p10;k005;").shade(60), 0);
        DUE.is("lead 5", Due.with("p18;p10;k005;").shade(60), 1);
        DUE.is("lead 6", Due.with("p57;p10;k005;").shade(60), 0);
        DUE.is("nobody is there", new MayReadPencil().shade(60), 0);
    }

    private static void shadeBelowNothing() {
        DUE.about("from now, to HER (may be below 0).");
        // As it is, 2 is put in for 30, and 1 writes that first; by purple ink he writes 9 first.
        MayReadPencil x = Due.with("p18;p01;f10;k030;k109;s02;s30;x30;r11;");
        DUE.is("shade(3)", x.shade(3), 0);
        DUE.is("shade(4)", x.shade(4), -1);
    }

    private static void kinds(MayReadPencil x, int kinds, int figures) {
        DUE.is("kinds by " + x.count(9), x.whatKind(0, 0), kinds);
        DUE.is("figures by " + x.count(9), x.whatKind(0, 1), figures);
    }

    /** The leads of a bank of figure 9: 9 on the 11th day. */
    private static void whatKind() {
        DUE.about("WHAT KIND: a ROW tells LEAD of one on the 1st, 2nd, .. DAY from now, whether he writes or not: "
                + "KINDS (bits) of him by which all of it is so; FIGURES (bits 0 .. 9).");
        MayReadPencil x = Due.with("p39;");
        kinds(x, 255, 1023);
        for (int i = 0; i < 10; i++) {
            x.row(0);
        }
        kinds(x, 1 << 3, 1 << 9);
        x.row(9);
        kinds(x, 1 << 3, 1 << 9);
        x.row(0);
        kinds(x, 1 << 3, 1 << 9);
        DUE.is("a 13th number", x.row(0), -6);
        x.clear();
        x.row(9);
        kinds(x, 1 << 0 | 1 << 7, 0);
        x.clear();
        x.row(10);
        kinds(x, 0, 0);
        x.clear();
        x.row(99);
        kinds(x, 0, 0);
        Due.withRow(x, 0);
        kinds(x, 0, 0);
        MayReadPencil least = Due.withRow(Due.with("p00;"), 0);
        kinds(least, 1 << 0 | 1 << 3 | 1 << 6, 1);
        MayReadPencil last = Due.withRow(Due.with("p39;"), 0, 0, 0, 0, 0, 0, 0, 0, 0, 0, 9, 9);
        kinds(last, 0, 0);
    }

    /** 0, a bank, writes secret 1 on the 10th day; 1 knows secret 0 alone till he has it on the 11th. */
    private static void whom(int bits, int... row) {
        MayReadPencil x = Due.withRow(Due.with("p33;p10;k000;k001;k100;"), row);
        DUE.is("to whom, by " + row.length, x.toWhom(1, 0), bits);
        DUE.is("the row stays", x.count(9), row.length);
    }

    private static void toWhom() {
        DUE.about("TO WHOM: a ROW tells how many SECRETS one KNOWS behind 0, 1, .. DAYS: FRIENDS (bits 0 .. 5, "
                + "there or not, his own, too) of a told one from now by which all of it is so.");
        whom(63);
        whom(63, 1);
        whom(0, 0);
        whom(0, 2);
        whom(63, 1, 1, 1, 1, 1, 1, 1, 1, 1, 1, 1);
        whom(2, 1, 1, 1, 1, 1, 1, 1, 1, 1, 1, 1, 2);
        whom(61, 1, 1, 1, 1, 1, 1, 1, 1, 1, 1, 1, 1);
        whom(0, 1, 1, 1, 1, 1, 1, 1, 1, 1, 1, 1, 0);
        whom(0, 1, 1, 1, 1, 1, 1, 1, 1, 1, 1, 1, 99);
        MayReadPencil six = Due.withRow(Due.with("p10;p10;p10;p10;p10;p10;k005;"), 0, 0, 1);
        DUE.is("the last of six", six.toWhom(5, 0), 32);
        DUE.is("they may be one", six.toWhom(0, 0), 0);
    }

    /** She knows 0 .. 4; 0 writes 5 on the 30th day, and she has it on the 31st. */
    private static void twoDays() {
        DUE.about("KNOWS behind n DAYS (1 .. 30), less how many of those that he himself KNOWS now SHE KNOWS then:");
        for (int day = 0; day <= 1; day++) {
            MayReadPencil x = Due.told(slowBank(5, 0), -1, 0, 4);
            on(x, day);
            DUE.is("30 days from day " + day, x.two(0, 1, 30), day == 0 ? 0 : 10);
            DUE.is("the other first, from day " + day, x.two(1, 0, 30), day);
            DUE.is("29 days from day " + day, x.two(0, 1, 29), 0);
            DUE.is("a day", x.two(0, 1, 1), 0);
            DUE.is("no day", x.two(0, 1, 0), -4);
            DUE.is("-1 days", x.two(0, 1, -1), -4);
            DUE.is("31 days", x.two(0, 1, 31), -6);
        }
    }

    private static void twoChoices() {
        DUE.about("the first pair (10 the one's and the other's) by which neither has more by another choice alone; -9.");
        DUE.is("as ever, both", Due.with("p10;p10;f10;").two(0, 1, 30), 0);
        DUE.is("the other in ink", Due.with("p10;p10;f10;k105;").two(0, 1, 2), 1);
        DUE.is("the one in ink", Due.with("p10;p10;f10;k005;").two(0, 1, 2), 10);
        DUE.is("both in ink", Due.with("p10;p10;f10;k005;k106;").two(0, 1, 2), 11);
        // Found by a search; the second telling in PlainPencil answers the same.
        DUE.is("none", Due.with("p03;p17;k005;k004;k109;k002;k009;k104;x05;x02;x09;x04;s04;s06;s01;f10;f01;r11;")
                .two(0, 1, 11), -9);
        DUE.about("each has how many SECRETS his FRIEND (if one is there) KNOWS");
        DUE.is("none is there", Due.with("p10;p10;f05;f15;k005;").two(0, 1, 30), 0);
        MayReadPencil own = Due.with("p10;p10;f00;f11;k005;");
        DUE.is("one twice", own.two(0, 0, 1), -1);
        DUE.is("his own", own.two(0, 1, 30), 0);
    }

    private static void damp(MayReadPencil x, int person, int n, int t, long above, long below) {
        String told = "damp(" + person + ", 5, " + n + ", " + t + ")";
        DUE.is(told + ": above", x.damp(person, 5, n, t, 0), above);
        DUE.is(told + ": below", x.damp(person, 5, n, t, 1), below);
    }

    /** A soldier of figure 9 writes on the 6th day; his letter, which would be rubbed out, is had on the 7th. */
    private static void dampDays() {
        DUE.about("DAMP: on each of n DAYS (0 .. 7), by itself,");
        MayReadPencil x = Due.with("p29;p10;k005;x05;");
        damp(x, 0, 0, 2, 1, 1);
        damp(x, 0, 7, 20, 1, 1);
        damp(x, 1, 0, 20, 0, 1);
        damp(x, 1, 6, 2, 0, 1);
        damp(x, 1, 7, 2, 1, 2);
        DUE.is("-1 days", x.damp(1, 5, -1, 2, 0), 4000000000000000004L);
        DUE.is("8 days", x.damp(1, 5, 8, 2, 0), 4000000000000000006L);
    }

    private static void dampOdds() {
        DUE.about("with odds 1 in t (2 .. 20) nothing is RUBBED (nor put in): how likely one KNOWS a SECRET "
                + "behind these: a fraction.");
        MayReadPencil x = Due.with("p29;p10;k005;x05;");
        damp(x, 1, 7, 3, 1, 3);
        damp(x, 1, 7, 19, 1, 19);
        damp(x, 1, 7, 20, 1, 20);
        DUE.is("1 in 1", x.damp(1, 5, 7, 1, 0), 4000000000000000004L);
        DUE.is("1 in 21", x.damp(1, 5, 7, 21, 0), 4000000000000000006L);
        // From one to the next of six, by five damp nights one behind another.
        MayReadPencil six = Due.with("p10;p10;p10;p10;p10;p10;k005;x05;");
        damp(six, 5, 5, 20, 0, 1);
        damp(six, 5, 6, 20, 1, 3200000);
        damp(six, 5, 7, 20, 1, 3200000);
        damp(six, 5, 7, 2, 1, 32);
        // 5 is put in for 6 unless it is damp.
        MayReadPencil word = Due.with("p10;p10;k006;x06;s05;");
        damp(word, 1, 7, 20, 19, 20);
        damp(word, 1, 7, 2, 1, 2);
        damp(word, 1, 1, 2, 0, 1);
    }

    /** Draws as the document tells them, in numbers without a bound. */
    private static int draw(BigInteger[] seed, int below) {
        BigInteger next = seed[0].multiply(BigInteger.valueOf(1103515245)).add(BigInteger.valueOf(12345));
        seed[0] = BigInteger.valueOf(next.mod(INTS).intValue());
        BigInteger unsigned = seed[0].mod(INTS).mod(BigInteger.ONE.shiftLeft(31));
        return unsigned.divide(BigInteger.valueOf(65536)).mod(BigInteger.valueOf(below)).intValueExact();
    }

    private static List<Set<Integer>> toldByLot(BigInteger[] seed, int people) {
        List<Set<Integer>> told = new ArrayList<>();
        for (int one = 0; one < people; one++) {
            told.add(new HashSet<>());
        }
        for (int i = 0; i < 10; i++) {
            Set<Integer> his = told.get(draw(seed, people));
            his.add(draw(seed, 40));
        }
        return told;
    }

    /** Lovers in a ring; within 12 days she has all that they write. */
    private static MayReadPencil ring(int people) {
        MayReadPencil x = new MayReadPencil();
        for (int one = 0; one < people; one++) {
            x.comes(1, 0);
        }
        x.friend(people - 1, 0);
        return x;
    }

    private static void games(int people, int n, int z) {
        BigInteger[] seed = {BigInteger.valueOf(z)};
        int secrets = 0;
        int letters = 0;
        for (int game = 0; game < n; game++) {
            Set<Integer> all = new HashSet<>();
            for (Set<Integer> his : toldByLot(seed, people)) {
                all.addAll(his);
                letters += (his.size() + 2) / 3;
            }
            secrets += all.size();
        }
        MayReadPencil x = ring(people);
        String told = "lots(" + n + ", " + z + ") of " + people;
        DUE.is(told + ": secrets", x.lots(n, z, 0), secrets);
        DUE.is(told + ": drawer", x.lots(n, z, 1), 0);
        x.rubber(18);
        for (int secret = 0; secret < 40; secret++) {
            x.forbids(secret);
        }
        DUE.is(told + ": secrets, all rubbed", x.lots(n, z, 0), secrets);
        DUE.is(told + ": drawer, all rubbed", x.lots(n, z, 1), letters);
    }

    private static void games() {
        DUE.about("LOTS with a seed z: n games (1 .. 20), each from now:");
        for (int people = 2; people <= 6; people++) {
            games(people, 1, 7);
            games(people, 2, 7);
            games(people, 20, 7);
        }
        MayReadPencil x = ring(2);
        Due.post(x, "k005;x05;d02;x05;");
        DUE.is("a letter in the drawer", x.count(3), 1);
        DUE.is("nothing is forbidden any more: no letter more", x.lots(20, 7, 1), 0);
        DUE.is("no game", x.lots(0, 7, 0), -4);
        DUE.is("-1 games", x.lots(-1, 7, 0), -4);
        DUE.is("21 games", x.lots(21, 7, 0), -6);
    }

    private static void gamesWithoutPeople() {
        DUE.about("he KNOWS it (without PEOPLE none of it);");
        MayReadPencil x = new MayReadPencil();
        DUE.is("secrets", x.lots(20, 7, 0), 0);
        DUE.is("drawer", x.lots(20, 7, 1), 0);
        x.comes(1, 0);
        DUE.is("one without a friend", x.lots(20, 7, 0), 0);
    }

    private static void seeds() {
        DUE.about("DRAWS: z becomes z times 1103515245 plus 12345 (an int, wrapping); a DRAW below n is "
                + "(z without its sign's bit, over 65536, cut) modulo n.");
        int[] edges = {0, 1, -1, 2, -2, 65535, 65536, -65536, Integer.MAX_VALUE, Integer.MIN_VALUE,
            Integer.MAX_VALUE - 1, Integer.MIN_VALUE + 1, 1103515245, -1103515245, 12345, -12345};
        for (int z : edges) {
            games(2, 1, z);
            games(5, 20, z);
            games(6, 3, z);
        }
    }

    /** Of what a game tells 0, a soldier of figure 9: she has his first letter on the 7th day, his second on the 13th. */
    private static void twelveDays() {
        DUE.about("then 12 DAYS: how many SECRETS more SHE KNOWS, together; DRAWER more, together.");
        for (int z = 0; z < 10; z++) {
            int told = toldByLot(new BigInteger[] {BigInteger.valueOf(z)}, 2).get(0).size();
            MayReadPencil x = Due.with("p29;p29;");
            DUE.is("one letter", x.lots(1, z, 0), Math.min(2, told));
            x.days(1);
            DUE.is("two letters", x.lots(1, z, 0), Math.min(4, told));
            Due.told(x, -1, 0, 39);
            DUE.is("she knows no more", x.lots(1, z, 0), 0);
        }
    }
}
