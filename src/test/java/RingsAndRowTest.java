import java.util.HashSet;
import java.util.Set;
import java.util.TreeSet;

/** Promises 30 to 43: rings of friends, what is common, the row, games, the image, counts. */
public final class RingsAndRowTest {
    private static final long FRACTIONS = 4000000000000000000L;
    private static final Due DUE = new Due("promises 30 to 43");

    public static void main(String[] args) {
        promise30();
        promise31();
        promise32();
        promise33();
        promise34();
        promise35Spoilt();
        promise35Still();
        promise35Busiest();
        promise36();
        promise37();
        promise38();
        promise39();
        promise40();
        promise40Days();
        promise40Drawer();
        promises41And42();
        promise43();
        DUE.end();
    }

    private static void reach(String village, int person, int bits, int ring) {
        MayReadPencil x = Due.with(village);
        DUE.is("reach of " + person + " in " + village, x.reach(person, 0), bits);
        DUE.is("ring of " + person + " in " + village, x.reach(person, 1), ring);
    }

    private static void promise30() {
        reach("p00;p00;p00;p00;p00;p00;", 0, 63, 6);
        reach("p00;p00;p00;p00;p00;p00;", 5, 63, 6);
        reach("p00;p00;p00;f21;", 0, 7, 2);
        reach("p00;p00;p00;f21;", 2, 6, 2);
        reach("p00;p00;p00;", 0, 7, -9);
        reach("p00;p00;p00;", 2, 4, -9);
        reach("p00;p00;p00;f22;", 0, 7, -9);
        reach("p00;p00;p00;f00;", 0, 1, -9);
        reach("p00;p00;p00;f15;", 0, 3, -9);
        reach("p00;p00;p00;f10;", 1, 3, 2);
        reach("p00;p00;p00;p00;p00;p00;f53;", 0, 63, 3);
        MayReadPencil x = Due.with("p00;");
        DUE.is("reach(-1, 2)", x.reach(-1, 2), -1);
        DUE.is("reach(1, 0)", x.reach(1, 0), -1);
        DUE.is("reach(0, 2)", x.reach(0, 2), -2);
        DUE.is("reach(0, -1)", x.reach(0, -1), -2);
    }

    private static void promise31() {
        MayReadPencil x = Due.with("p00;p00;k000;k001;k002;k102;k139;s02;");
        DUE.is("both", x.common(0, 1, 0), 1);
        DUE.is("either", x.common(0, 1, 1), 4);
        DUE.is("the first alone", x.common(0, 1, 2), 2);
        DUE.is("the other alone", x.common(1, 0, 2), 1);
        DUE.is("common(0, 0, 3)", x.common(0, 0, 3), -1);
        DUE.is("common(-1, 0, 0)", x.common(-1, 0, 0), -1);
        DUE.is("common(0, -1, 0)", x.common(0, -1, 0), -1);
        DUE.is("common(0, 2, 0)", x.common(0, 2, 0), -1);
        DUE.is("common(0, 1, 3)", x.common(0, 1, 3), -2);
        DUE.is("common(0, 1, -1)", x.common(0, 1, -1), -2);
    }

    private static void rarest(MayReadPencil x, int secret, int many, int unknown) {
        DUE.is("rarest(0)", x.rarest(0), secret);
        DUE.is("rarest(1)", x.rarest(1), many);
        DUE.is("rarest(2)", x.rarest(2), unknown);
    }

    private static void promise32() {
        MayReadPencil x = new MayReadPencil();
        x.tells(-1, 3);
        rarest(x, -9, 0, 40);
        Due.post(x, "p00;p00;p00;k003;k103;k203;");
        rarest(x, 3, 3, 39);
        Due.post(x, "k005;k105;");
        rarest(x, 5, 2, 38);
        Due.post(x, "k039;k238;");
        rarest(x, 38, 1, 36);
        MayReadPencil six = Due.with("p00;p00;p00;p00;p00;p00;", "k000;k100;k200;k300;k400;k500;");
        rarest(six, 0, 6, 39);
        DUE.is("known by six", six.then(0, 3), 6);
        share(six, 0, 1);
        DUE.is("rarest(3)", x.rarest(3), -2);
        DUE.is("rarest(-1)", x.rarest(-1), -2);
    }

    private static void share(MayReadPencil x, long above, long below) {
        DUE.is("share(0)", x.share(0), above);
        DUE.is("share(1)", x.share(1), below);
    }

    private static void promise33() {
        MayReadPencil x = new MayReadPencil();
        share(x, 0, 1);
        Due.post(x, "p00;p00;k000;k101;");
        share(x, 0, 1);
        Due.post(x, "s00;s02;");
        share(x, 2, 3);
        Due.post(x, "k103;");
        share(x, 1, 2);
        Due.post(x, "s01;s03;");
        share(x, 1, 1);
        DUE.is("share(2)", x.share(2), FRACTIONS + 2);
        DUE.is("share(-1)", x.share(-1), FRACTIONS + 2);
        DUE.is("refused for what", x.count(12), 2);
    }

    /** A day on which 1 .. 5 write to 0, each the secret 5. */
    private static MayReadPencil fiveLetters(String more) {
        return Due.with("p10;p10;p10;p10;p10;p10;f10;f20;f30;f40;f50;", "k105;k205;k305;k405;k505;d01;", more);
    }

    private static void promise34() {
        MayReadPencil x = fiveLetters("r06;");
        int[] want = {1, 1, 1, 2, 2};
        for (int place = 0; place < want.length; place++) {
            DUE.is("lamp(" + place + ")", x.lamp(place), want[place]);
        }
        DUE.is("lamp(5)", x.lamp(5), -1);
        DUE.is("lamp(-1)", x.lamp(-1), -1);
        DUE.is("refused for nobody", x.count(11), 2);
    }

    private static void promise35Spoilt() {
        DUE.is("none is forbidden", fiveLetters("r06;").bag(0), 0);
        MayReadPencil x = fiveLetters("x05;");
        DUE.is("all are spoilt", x.bag(0), 5);
        DUE.is("they stay in the bag", x.count(5), 5);
        DUE.is("the lead does not give", fiveLetters("x05;r04;").bag(0), 0);
        DUE.is("two words for five", fiveLetters("x05;s01;s02;").bag(0), 3);
        DUE.is("what he knows is no word for him", fiveLetters("x05;s01;s02;k001;").bag(0), 4);
        DUE.is("bag(3)", x.bag(3), -2);
        DUE.is("bag(-1)", x.bag(-1), -2);
    }

    private static void promise35Still() {
        DUE.is("nothing happens", Due.with("p10;p10;").bag(1), 60);
        DUE.is("he and she on day 2, another on day 3", Due.with("p10;p10;p10;k005;").bag(1), 57);
        DUE.is("on day 2 alone", Due.with("p10;p10;k005;").bag(1), 58);
        DUE.is("she alone counts, too", Due.with("p10;p10;k005;k105;d01;").bag(1), 59);
        // A writer's letter of every 3rd day is had on the next and passed on by lovers on the two behind that.
        MayReadPencil never = Due.with("p00;p10;p10;p10;");
        for (int secret = 0; secret < 20; secret++) {
            never.tells(0, secret);
        }
        never.days(3);
        DUE.is("no day is still", never.bag(1), 0);
        DUE.is("a child writes on every 7th day", Due.with("p69;p10;k001;k002;k003;k004;k005;k006;k007;").bag(1), 31);
    }

    private static void promise35Busiest() {
        MayReadPencil x = new MayReadPencil();
        DUE.is("no letter", x.bag(2), -9);
        MayReadPencil five = fiveLetters("r06;");
        DUE.is("of several the least", five.bag(2), 1);
        five.tells(5, 6);
        five.days(1);
        DUE.is("letters left", five.count(5), 4);
        DUE.is("two letters of the last", five.bag(2), 5);
        five.days(4);
        DUE.is("none any more", five.count(5), 0);
        DUE.is("nobody", five.bag(2), -9);
        DUE.is("the very first", Due.with("p10;p10;k005;d01;").bag(2), 0);
    }

    private static void promise36() {
        MayReadPencil x = Due.with("p79;p10;p11;p00;p70;p19;");
        int[] want = {1, 3, 0, 0, 0, 0, 0, 2};
        for (int kind = 0; kind < want.length; kind++) {
            DUE.is("kinds(" + kind + ")", x.kinds(kind), want[kind]);
        }
        DUE.is("kinds(-1)", x.kinds(-1), -2);
        DUE.is("kinds(8)", x.kinds(8), -2);
    }

    private static void promise37() {
        MayReadPencil x = new MayReadPencil();
        DUE.is("row(-1)", x.row(-1), -4);
        DUE.is("row(100)", x.row(100), -6);
        for (int many = 1; many <= 12; many++) {
            DUE.is("row, " + many, x.row(many % 2 == 0 ? 99 : 0), many);
        }
        DUE.is("a 13th", x.row(0), -6);
        DUE.is("a 13th below", x.row(-1), -4);
        DUE.is("in the row", x.count(9), 12);
    }

    private static void judge(int want, int... row) {
        MayReadPencil x = Due.withRow(Due.with("p00;p00;p00;k001;k002;k201;"), row);
        DUE.is("judge of " + row.length, x.judge(), want);
        DUE.is("the row has none then", x.count(9), 0);
        DUE.is("judge of none", x.judge(), -9);
    }

    private static void promise38() {
        judge(-9);
        judge(-9, 2);
        judge(-9, 2, 0, 1);
        judge(0, 1, 0, 1);
        judge(1, 2, 1, 1);
        judge(2, 2, 0, 0);
        judge(3, 2, 0, 1, 0);
        judge(0, 99, 0, 1, 0, 0, 0, 0, 0, 0, 0, 0, 0);
    }

    private static void promise39() {
        MayReadPencil x = Due.withRow(new MayReadPencil(), 4, 5, 6);
        DUE.is("clear()", x.clear(), 3);
        DUE.is("clear() again", x.clear(), 0);
        DUE.is("a new number", x.row(7), 1);
    }

    /** The secrets that the draws of one game tell each of the people; the seed goes on. */
    private static Set<Integer>[] tellByLot(long[] seed, int people) {
        @SuppressWarnings("unchecked")
        Set<Integer>[] told = new Set[people];
        for (int one = 0; one < people; one++) {
            told[one] = new HashSet<>();
        }
        for (int i = 0; i < 10; i++) {
            int one = draw(seed, people);
            told[one].add(draw(seed, 40));
        }
        return told;
    }

    private static int draw(long[] seed, int below) {
        seed[0] = seed[0] * 1103515245L + 12345L & 0xffffffffL;
        return (int) ((seed[0] & 0x7fffffffL) / 65536 % below);
    }

    /** Two lovers have written all that they were told, to each other and in pencil, within 12 days. */
    private static void promise40() {
        for (int z : new int[] {0, 1, -1, 12345, Integer.MAX_VALUE, Integer.MIN_VALUE}) {
            for (int n : new int[] {1, 2, 20}) {
                long[] seed = {z & 0xffffffffL};
                int want = 0;
                for (int game = 0; game < n; game++) {
                    Set<Integer>[] told = tellByLot(seed, 2);
                    told[0].addAll(told[1]);
                    want += told[0].size();
                }
                MayReadPencil x = Due.with("p10;p10;f10;");
                DUE.is("lots(" + n + ", " + z + ", 0)", x.lots(n, z, 0), want);
                DUE.is("lots(" + n + ", " + z + ", 1)", x.lots(n, z, 1), 0);
            }
        }
        MayReadPencil x = new MayReadPencil();
        DUE.is("without people", x.lots(20, 7, 0), 0);
        DUE.is("lots(0, 1, 2)", x.lots(0, 1, 2), -4);
        DUE.is("lots(-1, 1, 0)", x.lots(-1, 1, 0), -4);
        DUE.is("lots(21, 1, 2)", x.lots(21, 1, 2), -6);
        DUE.is("lots(20, 1, 2)", x.lots(20, 1, 2), -2);
        DUE.is("lots(20, 1, -1)", x.lots(20, 1, -1), -2);
    }

    /** A soldier of figure 9 writes his least two on every 6th day; it is had on the 7th, the next on the 13th. */
    private static void promise40Days() {
        for (int z = 0; z < 10; z++) {
            long[] seed = {z};
            TreeSet<Integer> told = new TreeSet<>(tellByLot(seed, 2)[0]);
            int few = Math.min(2, told.size());
            int more = Math.min(4, told.size());
            MayReadPencil x = Due.with("p29;p29;");
            DUE.is("on 12 days she has one letter", x.lots(1, z, 0), few);
            x.days(1);
            DUE.is("from the next day on she has two", x.lots(1, z, 0), more);
            x.tells(-1, told.first());
            x.tells(-1, told.last());
            DUE.is("what she knows is no more", x.lots(1, z, 0), more - 1 - (told.size() <= 4 ? 1 : 0));
        }
    }

    /** Where she forbids all and rubs all out, each letter goes to the drawer: three secrets a letter. */
    private static void promise40Drawer() {
        MayReadPencil x = Due.with("p10;p10;f10;r18;k000;k001;k102;");
        for (int secret = 0; secret < 40; secret++) {
            x.forbids(secret);
        }
        x.days(2);
        DUE.is("in the drawer before", x.count(3), 2);
        for (int z = -5; z < 5; z++) {
            long[] seed = {z & 0xffffffffL};
            int want = 0;
            for (int game = 0; game < 3; game++) {
                Set<Integer>[] told = tellByLot(seed, 2);
                told[0].remove(0);
                told[0].remove(1);
                told[1].remove(2);
                want += (told[0].size() + 2) / 3 + (told[1].size() + 2) / 3;
            }
            DUE.is("lots(3, " + z + ", 1)", x.lots(3, z, 1), want);
        }
    }

    private static void promises41And42() {
        MayReadPencil x = Due.withRow(Due.with("p10;p10;k005;x07;r09;d01;"), 3);
        DUE.is("restore() of none", x.restore(), -3);
        DUE.is("image()", x.image(), 1);
        x.feed('s');
        Due.post(x, "");
        x.feed('d');
        x.feed('d');
        x.row(4);
        x.comes(3, 3);
        x.friend(0, 2);
        x.tells(-1, 9);
        x.forbids(7);
        x.rubber(1);
        x.days(4);
        x.recalls(0);
        x.lamp(-1);
        DUE.is("restore()", x.restore(), 1);
        int[] want = {2, 1, 9, 0, 0, 1, 0, 1, 2, 2, 0, 1, 0, 1, 0, 0, 0};
        for (int what = 0; what < want.length; what++) {
            DUE.is("count(" + what + ") of the restored", x.count(what), want[what]);
        }
        DUE.is("friend", x.person(0, 2), 1);
        DUE.is("a letter", x.letter(0, 5), 5);
        DUE.is("has written", x.person(0, 4), 1);
        DUE.is("back() behind restore()", x.back(), -3);
        x.days(1);
        x.rubber(0);
        DUE.is("image() can be taken without leaving none", x.image(), 2);
        DUE.is("what can be taken back", x.back(), 1);
        x.days(2);
        DUE.is("restore() of the new one", x.restore(), 2);
        DUE.is("its rubber", x.count(2), 0);
        x.rubber(4);
        DUE.is("restore() once more", x.restore(), 2);
        DUE.is("its rubber is as it was", x.count(2), 0);
        MayReadPencil none = new MayReadPencil();
        none.image();
        none.tells(-1, 1);
        none.restore();
        DUE.is("an image of nobody", none.count(6), 0);
    }

    private static void promise43() {
        MayReadPencil x = Due.with("p10;p10;p10;k005;k006;k107;x05;x06;s01;r05;d01;", "d01;");
        x.tells(-1, 1);
        x.feed('p');
        Due.withRow(x, 1, 2, 3);
        x.lamp(9);
        x.kinds(9);
        x.kinds(8);
        x.restore();
        x.restore();
        x.restore();
        x.forbids(-1);
        x.rubber(19);
        x.rubber(20);
        // Night 2: of {5, 6} to 1 nothing is left, so 1 is put in; {7} to 2 goes on; 1 writes what was put in.
        int[] want = {3, 2, 5, 0, 2, 1, 4, 2, 1, 3, 1, 1, 2, 3, 1, 0, 2};
        for (int what = 0; what < want.length; what++) {
            DUE.is("count(" + what + ")", x.count(what), want[what]);
        }
        DUE.is("count(-1)", x.count(-1), -9);
        DUE.is("count(17)", x.count(17), -9);
        DUE.is("count(least int)", x.count(Integer.MIN_VALUE), -9);
        DUE.is("count() is never refused", x.count(12), 2);
    }
}
