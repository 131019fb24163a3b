/** Promises 16 to 29: what would be. */
public final class AheadTest {
    /** Lovers who write on every day in a lead that 5 rubs out: 0 to 1 to 2, who has no friend. */
    private static final String CHAIN = "p10;p10;p10;k005;";
    private static final long FRACTIONS = 4000000000000000000L;
    private static final Due DUE = new Due("promises 16 to 29");

    public static void main(String[] args) {
        promise16();
        promise17();
        promise18();
        promise19();
        promise20();
        promise21();
        promise22();
        promise23();
        promise24();
        promise25();
        promise26();
        promise27();
        promise28();
        promise29();
        nothingChanges();
        DUE.end();
    }

    private static void promise16() {
        MayReadPencil x = Due.with(CHAIN);
        DUE.is("knownIn(0, 0)", x.knownIn(0, 0), 1);
        DUE.is("knownIn(1, 1)", x.knownIn(1, 1), 0);
        DUE.is("knownIn(1, 2)", x.knownIn(1, 2), 1);
        DUE.is("knownIn(2, 2)", x.knownIn(2, 2), 0);
        DUE.is("knownIn(2, 60)", x.knownIn(2, 60), 1);
        DUE.is("knownIn(-1, 1)", x.knownIn(-1, 1), 0);
        DUE.is("knownIn(-1, 2)", x.knownIn(-1, 2), 1);
        DUE.is("knownIn(-2, -1)", x.knownIn(-2, -1), -1);
        DUE.is("knownIn(3, 61)", x.knownIn(3, 61), -1);
        DUE.is("knownIn(0, -1)", x.knownIn(0, -1), -4);
        DUE.is("knownIn(0, 61)", x.knownIn(0, 61), -6);
        MayReadPencil late = Due.with("p10;p10;");
        for (int i = 0; i < 16; i++) {
            late.days(60);
        }
        late.days(39);
        late.tells(0, 5);
        DUE.is("knownIn() past day 999", late.knownIn(1, 2), 1);
        DUE.is("person(0, 5) past day 999", late.person(0, 5), 1);
    }

    private static void promise17() {
        MayReadPencil x = Due.with(CHAIN);
        int[][] want = {{0, 0, 0, 1}, {1, 0, 0, 1}, {1, 0, 0, 2}, {0, 0, 0, 3}};
        for (int n = 0; n < want.length; n++) {
            for (int what = 0; what < 4; what++) {
                DUE.is("then(" + n + ", " + what + ")", x.then(n, what), want[n][what]);
            }
        }
        x.forbids(5);
        DUE.is("letters where it is rubbed", x.then(2, 0), 0);
        DUE.is("drawer where it is rubbed", x.then(2, 1), 1);
        DUE.is("rubbed where it is rubbed", x.then(2, 2), 1);
        DUE.is("known where it is rubbed", x.then(60, 3), 1);
        DUE.is("then(-1, 4)", x.then(-1, 4), -4);
        DUE.is("then(61, 4)", x.then(61, 4), -6);
        DUE.is("then(60, 4)", x.then(60, 4), -2);
        DUE.is("then(0, -1)", x.then(0, -1), -2);
    }

    private static void promise18() {
        MayReadPencil x = Due.with(CHAIN);
        DUE.is("when(0, 5)", x.when(0, 5), 0);
        DUE.is("when(1, 5)", x.when(1, 5), 2);
        DUE.is("when(2, 5)", x.when(2, 5), 3);
        DUE.is("when(-1, 5)", x.when(-1, 5), 2);
        DUE.is("when(2, 6)", x.when(2, 6), -9);
        DUE.is("when(-2, 5)", x.when(-2, 5), -1);
        DUE.is("when(3, -1)", x.when(3, -1), -1);
        DUE.is("when(0, -1)", x.when(0, -1), -4);
        DUE.is("when(0, 40)", x.when(0, 40), -6);
        DUE.is("when(0, 0)", x.when(0, 0), -9);
        DUE.is("when(0, 39)", x.when(0, 39), -9);
        // A writer writes one secret every third day: the 20th on day 60, had on day 61; the 19th on 57, had on 58.
        MayReadPencil slow = Due.with("p00;p00;");
        for (int secret = 0; secret < 21; secret++) {
            slow.tells(0, secret);
        }
        DUE.is("behind 58 days", slow.when(1, 18), 58);
        DUE.is("behind 61 days", slow.when(1, 19), -9);
        slow.days(1);
        DUE.is("behind 60 days", slow.when(1, 19), 60);
    }

    private static void promise19() {
        MayReadPencil x = Due.with(CHAIN);
        DUE.is("first(5)", x.first(5), 1);
        DUE.is("first(6)", x.first(6), -9);
        x.friend(0, 2);
        DUE.is("first(5) by another friend", x.first(5), 2);
        MayReadPencil both = Due.with("p10;p10;p10;p10;f02;f13;k005;k105;");
        DUE.is("first(5) of two on one day", both.first(5), 2);
        both.tells(2, 5);
        DUE.is("first(5) of the others", both.first(5), 3);
        both.tells(3, 5);
        DUE.is("first(5) where all know it", both.first(5), -9);
        DUE.is("first(5) of the very first", Due.with("p10;p10;f10;k105;").first(5), 0);
        DUE.is("first(0)", x.first(0), -9);
        DUE.is("first(39)", x.first(39), -9);
        DUE.is("first(-1)", x.first(-1), -4);
        DUE.is("first(40)", x.first(40), -6);
        MayReadPencil slow = Due.with("p00;p00;");
        for (int secret = 0; secret < 21; secret++) {
            slow.tells(0, secret);
        }
        DUE.is("first() behind 61 days", slow.first(19), -9);
        slow.days(1);
        DUE.is("first() behind 60 days", slow.first(19), 1);
    }

    private static void promise20() {
        MayReadPencil x = Due.with(CHAIN, "x05;");
        DUE.is("letHer(1, 0, 0)", x.letHer(1, 0, 0), -9);
        DUE.is("letHer(1, 1, 0)", x.letHer(1, 1, 0), -9);
        DUE.is("letHer(1, 1, 1)", x.letHer(1, 1, 1), -9);
        DUE.is("letHer(1, 2, 0)", x.letHer(1, 2, 0), 0);
        DUE.is("letHer(1, 2, 1)", x.letHer(1, 2, 1), 1);
        DUE.is("letHer(2, 2, 0)", x.letHer(2, 2, 0), -9);
        DUE.is("letHer(2, 30, 1)", x.letHer(2, 30, 1), 1);
        x.forbids(0);
        x.tells(1, 1);
        x.tells(1, 2);
        DUE.is("the least that is not forbidden and he does not know", x.letHer(1, 2, 0), 3);
        DUE.is("how many he knows then", x.letHer(1, 2, 1), 3);
        x.tells(-1, 9);
        DUE.is("no more than as it is, since she would put in 9", x.letHer(1, 2, 0), -9);
        DUE.is("letHer(-1, -1, 2)", x.letHer(-1, -1, 2), -1);
        DUE.is("letHer(3, 0, 0)", x.letHer(3, 0, 0), -1);
        DUE.is("letHer(0, -1, 2)", x.letHer(0, -1, 2), -4);
        DUE.is("letHer(0, 31, 2)", x.letHer(0, 31, 2), -6);
        DUE.is("letHer(0, 30, 2)", x.letHer(0, 30, 2), -2);
        DUE.is("letHer(0, 30, -1)", x.letHer(0, 30, -1), -2);
    }

    private static void promise21() {
        MayReadPencil x = Due.with(CHAIN);
        DUE.is("nothing is forbidden", x.rubberFor(1, 5, 2), -9);
        x.forbids(5);
        DUE.is("lead and press together", x.rubberFor(1, 5, 60), 5);
        DUE.is("any does until then", x.rubberFor(2, 5, 2), 0);
        DUE.is("rubberFor(0, 0, 60)", x.rubberFor(0, 0, 60), 0);
        DUE.is("rubberFor(0, 39, 0)", x.rubberFor(0, 39, 0), 0);
        DUE.is("and then", x.rubberFor(2, 5, 3), 5);
        DUE.is("he knows it", x.rubberFor(0, 5, 0), -9);
        DUE.is("rubberFor(-1, 5, 0)", x.rubberFor(-1, 5, 0), -1);
        DUE.is("rubberFor(3, -1, -1)", x.rubberFor(3, -1, -1), -1);
        DUE.is("rubberFor(0, -1, 61)", x.rubberFor(0, -1, 61), -4);
        DUE.is("rubberFor(0, 40, -1)", x.rubberFor(0, 40, -1), -4);
        DUE.is("rubberFor(0, 40, 60)", x.rubberFor(0, 40, 60), -6);
        DUE.is("rubberFor(0, 39, 61)", x.rubberFor(0, 39, 61), -6);
        // A bank's lead of 9 on the 10th day and its press of 5: 14.
        MayReadPencil bank = Due.with("p30;p10;d09;k005;x05;");
        DUE.is("a bank's", bank.rubberFor(1, 5, 60), 14);
        bank.friend(0, 0);
        DUE.is("a bank's that never writes", bank.rubberFor(1, 5, 60), 0);
    }

    private static void promise22() {
        MayReadPencil x = Due.with(CHAIN);
        DUE.is("none is needed", x.ink(5, 1), 0);
        DUE.is("the first of them", x.ink(5, 2), 1);
        DUE.is("both", x.ink(5, 3), 3);
        DUE.is("ink(5, 30)", x.ink(5, 30), 3);
        x.days(1);
        DUE.is("a letter is posted already", x.ink(5, 1), -9);
        MayReadPencil last = Due.with("p00;p10;p10;k205;f20;");
        DUE.is("the last of them", last.ink(5, 2), 4);
        // A writer of figure 0 writes in ink as ever.
        DUE.is("and whom the ink comes to in the end", last.ink(5, 8), 6);
        last.tells(-1, 5);
        DUE.is("she knows it", last.ink(5, 0), -9);
        DUE.is("ink(0, 30)", last.ink(0, 30), 0);
        DUE.is("ink(39, 30)", last.ink(39, 30), 0);
        DUE.is("all of them", Due.with("p10;p10;f10;k005;k105;").ink(5, 30), 3);
        // The third's ink lets 3 through to the first, who then writes that before 9; the first two do as well.
        DUE.is("one before two of lesser bits", Due.with("p01;p10;p10;f20;k009;k203;x03;").ink(9, 5), 4);
        DUE.is("ink(-1, 31)", x.ink(-1, 31), -4);
        DUE.is("ink(40, -1)", x.ink(40, -1), -4);
        DUE.is("ink(40, 30)", x.ink(40, 30), -6);
        DUE.is("ink(39, 31)", x.ink(39, 31), -6);
    }

    private static void friendFor(MayReadPencil x, int person, int told, int secret, int friend, int days) {
        String call = "friendFor(" + person + ", " + told + ", " + secret + ")";
        DUE.is(call + ": which", x.friendFor(person, told, secret, 0), friend);
        DUE.is(call + ": behind how many days", x.friendFor(person, told, secret, 1), days);
    }

    private static void promise23() {
        MayReadPencil x = Due.with(CHAIN);
        friendFor(x, 0, 2, 5, 2, 2);
        friendFor(x, 0, 1, 5, 1, 2);
        friendFor(x, 1, 2, 5, 2, 3);
        friendFor(x, 1, 1, 5, 0, 2);
        friendFor(x, 2, 2, 5, 0, 3);
        friendFor(x, 0, 0, 5, 1, 0);
        friendFor(x, 0, 2, 6, -9, -9);
        friendFor(Due.with("p10;k005;"), 0, 0, 5, -9, -9);
        friendFor(Due.with("p10;p10;k000;"), 0, 1, 0, 1, 2);
        MayReadPencil slow = Due.with("p00;p00;");
        for (int secret = 0; secret < 21; secret++) {
            slow.tells(0, secret);
        }
        friendFor(slow, 0, 1, 19, -9, -9);
        slow.days(1);
        friendFor(slow, 0, 1, 19, 1, 60);
        DUE.is("friendFor(-1, 0, -1, 2)", x.friendFor(-1, 0, -1, 2), -1);
        DUE.is("friendFor(0, 3, 40, 2)", x.friendFor(0, 3, 40, 2), -1);
        DUE.is("friendFor(0, -1, 5, 0)", x.friendFor(0, -1, 5, 0), -1);
        DUE.is("friendFor(0, 1, -1, 2)", x.friendFor(0, 1, -1, 2), -4);
        DUE.is("friendFor(0, 1, 40, 2)", x.friendFor(0, 1, 40, 2), -6);
        DUE.is("friendFor(0, 1, 39, 2)", x.friendFor(0, 1, 39, 2), -2);
        DUE.is("friendFor(0, 1, 39, -1)", x.friendFor(0, 1, 39, -1), -2);
    }

    private static void promise24() {
        MayReadPencil x = Due.with("p00;p10;p10;k005;");
        int[] want = {-9, -9, 1, 2, 1, -9};
        for (int n = 0; n < want.length; n++) {
            DUE.is("swap(" + n + ")", x.swap(n), want[n]);
        }
        DUE.is("the last two", Due.with("p10;p00;p10;k005;").swap(3), 12);
        // The figure is changed, too: a soldier of 0 writes on even days, one of 9 on every sixth.
        DUE.is("two of one kind", Due.with("p29;p20;k005;").swap(3), 1);
        DUE.is("the other's figure, too", Due.with("p20;p29;f10;k105;").swap(3), 1);
        DUE.is("the last two of six", Due.with("p00;p00;p00;p00;p00;p10;f50;f45;k405;").swap(2), 45);
        DUE.is("two of one kind and figure", Due.with("p29;p29;k005;").swap(3), -9);
        DUE.is("swap(-1)", x.swap(-1), -4);
        DUE.is("swap(31)", x.swap(31), -6);
        DUE.is("swap(30)", x.swap(30), -9);
    }

    private static void promise25() {
        MayReadPencil x = Due.with("p18;p10;k005;");
        DUE.is("shade(0)", x.shade(0), 0);
        DUE.is("shade(1)", x.shade(1), 0);
        DUE.is("shade(2)", x.shade(2), 1);
        x.days(1);
        DUE.is("a letter in the bag is purple, too", x.shade(1), 1);
        DUE.is("another lead is not", Due.with(CHAIN).shade(60), 0);
        // As it is, 2 is put in for 30, and 1 writes that first; by purple ink he writes 9 first.
        MayReadPencil less = Due.with("p18;p01;f10;k030;k109;s02;s30;x30;r11;");
        DUE.is("shade(3)", less.shade(3), 0);
        DUE.is("shade(4)", less.shade(4), -1);
        DUE.is("shade(-1)", x.shade(-1), 1000000004);
        DUE.is("shade(61)", x.shade(61), 1000000006);
        DUE.is("refused below", x.count(14), 1);
        DUE.is("refused for room", x.count(16), 1);
    }

    private static void whatKind(String village, int person, int kinds, int figures, int... row) {
        MayReadPencil x = Due.withRow(Due.with(village), row);
        String about = "whatKind of " + village + " with " + row.length + " leads";
        DUE.is(about + ": kinds", x.whatKind(person, 0), kinds);
        DUE.is(about + ": figures", x.whatKind(person, 1), figures);
        DUE.is(about + ": the row stays", x.count(9), row.length);
    }

    private static void promise26() {
        whatKind("p25;", 0, 255, 1023);
        whatKind("p25;", 0, 4, 1023, 1, 7, 4);
        whatKind("p25;d01;", 0, 4, 1023, 7, 4, 1);
        whatKind("p05;", 0, 17, 32, 5, 0, 5);
        whatKind("p30;", 0, 8, 1, 0, 9);
        whatKind("p43;", 0, 16, 8, 5, 0, 5, 0, 9, 0);
        whatKind("p10;p14;", 1, 2, 48, 3, 3);
        whatKind("p54;", 0, 32, 48, 5, 5);
        whatKind("p60;", 0, 64, 1023, 0, 6, 3);
        whatKind("p70;", 0, 128, 1023, 9, 3, 6);
        whatKind("p70;", 0, 0, 0, 99);
        MayReadPencil x = Due.with("p25;");
        DUE.is("whatKind(-1, 2)", x.whatKind(-1, 2), -1);
        DUE.is("whatKind(1, 0)", x.whatKind(1, 0), -1);
        DUE.is("whatKind(0, 2)", x.whatKind(0, 2), -2);
        DUE.is("whatKind(0, -1)", x.whatKind(0, -1), -2);
    }

    private static void toWhom(int person, int told, int bits, int... row) {
        MayReadPencil x = Due.withRow(Due.with(CHAIN), row);
        DUE.is("toWhom(" + person + ", " + told + ") by " + row.length, x.toWhom(person, told), bits);
        DUE.is("the row stays", x.count(9), row.length);
    }

    private static void promise27() {
        toWhom(2, 0, 63);
        toWhom(2, 0, 63, 0);
        toWhom(2, 0, 59, 0, 0, 0);
        toWhom(2, 0, 4, 0, 0, 1);
        toWhom(2, 0, 2, 0, 0, 0, 1);
        toWhom(2, 0, 4, 0, 0, 1, 1, 1, 1, 1, 1, 1, 1, 1, 1);
        toWhom(2, 0, 57, 0, 0, 0, 0);
        toWhom(0, 0, 63, 1, 1, 1);
        toWhom(0, 1, 0, 0);
        MayReadPencil x = Due.with(CHAIN);
        DUE.is("toWhom(-1, 0)", x.toWhom(-1, 0), -1);
        DUE.is("toWhom(0, -1)", x.toWhom(0, -1), -1);
        DUE.is("toWhom(0, 3)", x.toWhom(0, 3), -1);
        DUE.is("toWhom(3, 0)", x.toWhom(3, 0), -1);
    }

    private static void promise28() {
        MayReadPencil x = Due.with(CHAIN);
        DUE.is("two(0, 1, 1)", x.two(0, 1, 1), 0);
        DUE.is("two(0, 1, 2)", x.two(0, 1, 2), 10);
        DUE.is("two(1, 0, 2)", x.two(1, 0, 2), 1);
        DUE.is("two(0, 1, 3): the friend's letter tells her all the same", x.two(0, 1, 3), 0);
        // Each knows one, and it is read unless he writes in ink.
        DUE.is("both in ink", Due.with("p10;p10;f10;k005;k106;").two(0, 1, 2), 11);
        DUE.is("without a friend there", Due.with("p10;p10;f05;f15;k005;").two(0, 1, 30), 0);
        // Found by a search; the second telling in PlainPencil answers the same.
        MayReadPencil none = Due.with("p03;p17;k005;k004;k109;k002;k009;k104;x05;x02;x09;x04;s04;s06;s01;f10;f01;r11;");
        DUE.is("one would always choose otherwise", none.two(0, 1, 11), -9);
        DUE.is("two(0, 0, 0)", x.two(0, 0, 0), -1);
        DUE.is("two(-1, 0, 31)", x.two(-1, 0, 31), -1);
        DUE.is("two(0, 3, 1)", x.two(0, 3, 1), -1);
        DUE.is("two(0, 1, 0)", x.two(0, 1, 0), -4);
        DUE.is("two(0, 1, 31)", x.two(0, 1, 31), -6);
        DUE.is("two(0, 1, 30)", x.two(0, 1, 30), 0);
    }

    private static void damp(MayReadPencil x, int[] call, long above, long below) {
        String about = "damp(" + call[0] + ", " + call[1] + ", " + call[2] + ", " + call[3] + ")";
        DUE.is(about + ": above", x.damp(call[0], call[1], call[2], call[3], 0), above);
        DUE.is(about + ": below", x.damp(call[0], call[1], call[2], call[3], 1), below);
    }

    private static void promise29() {
        MayReadPencil x = Due.with(CHAIN, "x05;");
        damp(x, new int[] {0, 5, 0, 2}, 1, 1);
        damp(x, new int[] {1, 5, 0, 2}, 0, 1);
        damp(x, new int[] {1, 5, 1, 2}, 0, 1);
        damp(x, new int[] {1, 5, 2, 2}, 1, 2);
        damp(x, new int[] {1, 5, 2, 4}, 1, 4);
        damp(x, new int[] {1, 5, 7, 20}, 1, 20);
        damp(x, new int[] {2, 5, 3, 3}, 1, 9);
        damp(x, new int[] {2, 5, 7, 20}, 1, 400);
        damp(Due.with(CHAIN), new int[] {2, 5, 7, 20}, 1, 1);
        damp(x, new int[] {0, 0, 7, 20}, 0, 1);
        // 0's letter is had on the 2nd night, 2's on the 4th.
        MayReadPencil twice = Due.with("p10;p10;p03;f21;k005;k205;x05;");
        damp(twice, new int[] {1, 5, 4, 2}, 3, 4);
        damp(twice, new int[] {1, 5, 4, 3}, 5, 9);
        damp(twice, new int[] {1, 5, 7, 20}, 39, 400);
        // Nothing is put in on a damp night either.
        MayReadPencil word = Due.with(CHAIN, "x05;s02;");
        damp(word, new int[] {1, 2, 2, 3}, 2, 3);
        refusedDamp(x);
    }

    private static void refusedDamp(MayReadPencil x) {
        DUE.is("damp(-1, -1, 8, 1, 2)", x.damp(-1, -1, 8, 1, 2), FRACTIONS + 1);
        DUE.is("damp(3, 5, 2, 2, 0)", x.damp(3, 5, 2, 2, 0), FRACTIONS + 1);
        DUE.is("damp(0, -1, 8, 21, 2)", x.damp(0, -1, 8, 21, 2), FRACTIONS + 4);
        DUE.is("damp(0, 40, -1, 21, 2)", x.damp(0, 40, -1, 21, 2), FRACTIONS + 4);
        DUE.is("damp(0, 40, 8, 1, 2)", x.damp(0, 40, 8, 1, 2), FRACTIONS + 4);
        DUE.is("damp(0, 40, 7, 20, 2)", x.damp(0, 40, 7, 20, 2), FRACTIONS + 6);
        DUE.is("damp(0, 39, 8, 20, 2)", x.damp(0, 39, 8, 20, 2), FRACTIONS + 6);
        DUE.is("damp(0, 39, 7, 21, 2)", x.damp(0, 39, 7, 21, 2), FRACTIONS + 6);
        DUE.is("damp(0, 39, 7, 20, 2)", x.damp(0, 39, 7, 20, 2), FRACTIONS + 2);
        DUE.is("damp(0, 39, 7, 20, -1)", x.damp(0, 39, 7, 20, -1), FRACTIONS + 2);
    }

    /** What is asked in mind leaves all as it was. */
    private static void nothingChanges() {
        MayReadPencil x = Due.with(CHAIN, "x05;d01;");
        for (int round = 0; round < 2; round++) {
            x.knownIn(0, 60);
            x.then(60, 0);
            x.when(2, 5);
            x.first(5);
            x.letHer(1, 30, 0);
            x.rubberFor(1, 5, 60);
            x.ink(5, 30);
            x.friendFor(0, 2, 5, 0);
            x.swap(30);
            x.shade(60);
            x.toWhom(0, 1);
            x.lots(3, 1, 0);
            x.two(0, 1, 30);
            DUE.is("nobody writes in ink", x.knownIn(-1, 2), 1);
            x.damp(1, 5, 7, 3, 0);
            DUE.is("no night is damp", x.knownIn(1, 60), 0);
            x.shade(60);
            DUE.is("she reads", x.knownIn(-1, 2), 1);
            x.bag(0);
            x.bag(1);
            DUE.is("day", x.count(1), 1);
            DUE.is("rubber", x.count(2), 6);
            DUE.is("drawer", x.count(3), 0);
            DUE.is("rubbed", x.count(4), 0);
            DUE.is("letters", x.count(5), 1);
            DUE.is("she knows", x.count(6), 0);
            DUE.is("friend", x.person(0, 2), 1);
            DUE.is("has written", x.person(0, 4), 1);
            DUE.is("to be taken back", x.count(10), 0);
        }
    }
}
