import java.util.ArrayDeque;
import java.util.Deque;
import java.util.function.Consumer;

/** The boundary cases of parts III and IV, the image, the row and the counts: a test for each sentence that names one. */
public final class EdgesOfTheRestTest {
    private static final Due DUE = new Due("edges of parts III and IV");
    private static final String SIX = "p10;p10;p10;p10;p10;p10;";

    public static void main(String[] args) {
        newObject();
        takenBack();
        eightAtMost();
        eachThatIsNotRefusedCounts();
        noneIsLeft();
        howManyStillCan();
        oftenAndLong();
        reach();
        ring();
        common();
        rarest();
        unknownSecrets();
        share();
        lamp();
        spoilt();
        still();
        kinds();
        busiest();
        image();
        noImage();
        notOfTheImage();
        row();
        judged();
        cleared();
        counts();
        DUE.end();
    }

    private static void newObject() {
        DUE.about("Nobody; an empty BAG.");
        MayReadPencil x = new MayReadPencil();
        DUE.is("people", x.count(0), 0);
        DUE.is("nobody", x.person(0, 0), -1);
        DUE.is("letters in the bag", x.count(5), 0);
        DUE.is("no letter", x.letter(0, 0), -1);
        for (int what = 0; what <= 10; what++) {
            DUE.is("count " + what, x.count(what), what == 2 ? 6 : 0);
        }
    }

    private static void takenBack(String told, Consumer<MayReadPencil> change) {
        DUE.isSo("nothing is left of " + told, Sight.isSame(Sight::usedOne, x -> {
            change.accept(x);
            x.back();
        }));
        DUE.isSo("nothing is left of " + told + ", twice", Sight.isSame(Sight::usedOne, x -> {
            change.accept(x);
            change.accept(x);
            x.back();
            x.back();
        }));
    }

    private static void takenBack() {
        DUE.about("What friend(), tells(), forbids(), rubber(), recalls(), days() changed can be TAKEN BACK");
        for (int least = 0; least <= 5; least += 5) {
            int friend = least;
            takenBack("friend " + friend, x -> x.friend(0, friend));
        }
        for (int one = -1; one <= 1; one++) {
            int who = one;
            takenBack("tells(" + who + ", 0)", x -> x.tells(who, 0));
            takenBack("tells(" + who + ", 39)", x -> x.tells(who, 39));
        }
        takenBack("forbids(0)", x -> x.forbids(0));
        takenBack("forbids(6)", x -> x.forbids(6));
        takenBack("forbids(39)", x -> x.forbids(39));
        takenBack("rubber(0)", x -> x.rubber(0));
        takenBack("rubber(18)", x -> x.rubber(18));
        takenBack("recalls(0)", x -> x.recalls(0));
        takenBack("recalls(1)", x -> x.recalls(1));
        takenBack("days(1)", x -> x.days(1));
        takenBack("days(60)", x -> x.days(60));
    }

    private static void eightAtMost() {
        DUE.about("the latest first, 8 at most (older ones no more;");
        MayReadPencil x = new MayReadPencil();
        DUE.is("none at first", x.count(10), 0);
        for (int v = 1; v <= 8; v++) {
            x.rubber(v);
            DUE.is("one more", x.count(10), v);
        }
        x.rubber(9);
        DUE.is("eight at most", x.count(10), 8);
        for (int left = 7; left >= 0; left--) {
            DUE.is("back", x.back(), left);
            DUE.is("rubber", x.count(2), left + 1);
        }
        DUE.is("the oldest no more", x.back(), -3);
        DUE.is("it stays", x.count(2), 1);
        MayReadPencil eight = new MayReadPencil();
        for (int v = 1; v <= 8; v++) {
            eight.rubber(v);
        }
        for (int left = 7; left >= 0; left--) {
            DUE.is("back of eight", eight.back(), left);
        }
        DUE.is("the first of eight is taken back", eight.count(2), 6);
        DUE.is("no ninth", eight.back(), -3);
    }

    private static void eachThatIsNotRefusedCounts() {
        DUE.about("(each that is not refused counts, also if all stays as it was)");
        MayReadPencil x = Due.with("p10;p10;k005;s05;");
        x.friend(0, 1);
        DUE.is("the same friend", x.count(10), 1);
        x.tells(0, 5);
        DUE.is("what he knows", x.count(10), 2);
        x.tells(-1, 5);
        DUE.is("what she knows", x.count(10), 3);
        x.rubber(6);
        DUE.is("the same rubber", x.count(10), 4);
        x.recalls(0);
        DUE.is("no letter of his", x.count(10), 5);
        x.forbids(5);
        DUE.is("forbids", x.count(10), 6);
        x.days(1);
        DUE.is("days", x.count(10), 7);
        x.friend(0, 6);
        x.tells(0, 40);
        x.tells(-1, -1);
        x.rubber(19);
        x.recalls(2);
        x.forbids(40);
        x.days(0);
        DUE.is("refused ones", x.count(10), 7);
        DUE.is("back of days", x.back(), 6);
        DUE.is("the day", x.count(1), 0);
        DUE.is("back of forbids", x.back(), 5);
        DUE.is("what she forbids", x.count(7), 0);
        for (int left = 4; left >= 0; left--) {
            DUE.is("back of what changed nothing", x.back(), left);
        }
    }

    private static void noneIsLeft() {
        DUE.about("comes(), a POST without FAULT, restore(), where they are not refused, leave none).");
        MayReadPencil x = new MayReadPencil();
        x.rubber(1);
        x.restore();
        x.comes(8, 0);
        x.comes(0, 10);
        Due.post(x, "");
        Due.post(x, "r19;");
        DUE.is("refused ones and faults leave it", x.count(10), 1);
        x.image();
        DUE.is("an image leaves it", x.count(10), 1);
        x.comes(0, 0);
        DUE.is("comes()", x.count(10), 0);
        DUE.is("back behind comes()", x.back(), -3);
        x.rubber(2);
        Due.post(x, "r03;");
        DUE.is("a post", x.count(10), 0);
        DUE.is("back behind a post", x.back(), -3);
        DUE.is("the post's rubber stays", x.count(2), 3);
        x.rubber(4);
        x.restore();
        DUE.is("restore()", x.count(10), 0);
        DUE.is("back behind restore()", x.back(), -3);
        DUE.is("the restored rubber", x.count(2), 1);
        x.rubber(5);
        DUE.is("from then on it counts anew", x.count(10), 1);
        DUE.is("and is taken back", x.back(), 0);
        DUE.is("to the restored rubber", x.count(2), 1);
    }

    private static void howManyStillCan() {
        DUE.about("TAKEN BACK: how many can still be. -3 none.");
        MayReadPencil x = Due.with("p10;p10;k005;k006;k007;k008;");
        DUE.is("none", x.back(), -3);
        x.days(2);
        x.recalls(0);
        x.days(60);
        DUE.is("three", x.count(10), 3);
        DUE.is("back of 60 days", x.back(), 2);
        DUE.is("the day", x.count(1), 2);
        DUE.is("letters", x.count(5), 0);
        DUE.is("back of recalls()", x.back(), 1);
        DUE.is("its letter", x.letter(0, 5), 8);
        DUE.is("all is written", x.person(0, 4), 4);
        DUE.is("back of two days", x.back(), 0);
        DUE.is("no letter", x.count(5), 0);
        DUE.is("nothing is written", x.person(0, 4), 0);
        DUE.is("he knows none", x.person(1, 3), 0);
        DUE.is("she knows none", x.count(6), 0);
        DUE.is("none", x.back(), -3);
        DUE.is("refused twice", x.count(13), 2);
    }

    /** Changes and back() in turns, over and over, beside a plain stack of at most eight. */
    private static void oftenAndLong() {
        DUE.about("can be TAKEN BACK");
        MayReadPencil x = new MayReadPencil();
        Deque<Integer> past = new ArrayDeque<>();
        int rubber = 6;
        int turn = 1;
        for (int i = 0; i < 250; i++) {
            turn = turn * 7 % 101;
            if (turn % 5 < 3) {
                past.push(rubber);
                if (past.size() > 8) {
                    past.removeLast();
                }
                rubber = turn % 19;
                x.rubber(rubber);
            } else {
                DUE.is("back", x.back(), past.isEmpty() ? -3 : past.size() - 1);
                rubber = past.isEmpty() ? rubber : past.pop();
            }
            DUE.is("rubber", x.count(2), rubber);
        }
    }

    private static void reach(String village, int person, int bits, int ring) {
        MayReadPencil x = Due.with(village);
        DUE.is("reach of " + person + " in " + village, x.reach(person, 0), bits);
        DUE.is("ring of " + person + " in " + village, x.reach(person, 1), ring);
    }

    private static void reach() {
        DUE.about("REACH of one: PEOPLE (bits) to whom it comes by FRIENDS from him, he too;");
        reach("p10;", 0, 1, -9);
        reach("p10;f00;", 0, 1, -9);
        reach("p10;f05;", 0, 1, -9);
        reach(SIX, 0, 63, 6);
        reach(SIX + "f55;", 0, 63, -9);
        reach(SIX + "f55;", 5, 32, -9);
        reach("p10;p10;p10;p10;p10;f45;", 0, 31, -9);
        reach("p10;p10;p10;p10;p10;f45;", 4, 16, -9);
    }

    private static void ring() {
        DUE.about("RING: how many are in the ring to which that leads; "
                + "-9 it ends (at a FRIEND who is not there, or is his own).");
        reach("p10;p10;f10;", 0, 3, 2);
        reach("p10;p10;f10;", 1, 3, 2);
        reach(SIX + "f54;", 0, 63, 2);
        reach(SIX + "f51;", 0, 63, 5);
        reach(SIX + "f50;", 3, 63, 6);
        reach("p10;p10;p10;f11;", 0, 3, -9);
        reach("p10;p10;p10;f15;", 0, 3, -9);
        MayReadPencil x = Due.with("p10;p10;p10;p10;p10;");
        DUE.is("the sixth is not there", x.reach(0, 1), -9);
        x.comes(1, 0);
        DUE.is("he is, and his friend is the first", x.reach(0, 1), 6);
    }

    private static void common(MayReadPencil x, int both, int either, int alone) {
        DUE.is("both", x.common(0, 1, 0), both);
        DUE.is("either", x.common(0, 1, 1), either);
        DUE.is("the first alone", x.common(0, 1, 2), alone);
    }

    private static void common() {
        DUE.about("COMMON: how many SECRETS two both KNOW; how many either; how many the first one alone.");
        MayReadPencil x = Due.with("p10;p10;s00;s39;");
        common(x, 0, 0, 0);
        x.tells(0, 39);
        common(x, 0, 1, 1);
        x.tells(1, 0);
        common(x, 0, 2, 1);
        x.tells(1, 39);
        common(x, 1, 2, 0);
        Due.told(x, 1, 0, 39);
        common(x, 1, 40, 0);
        Due.told(x, 0, 0, 39);
        common(x, 40, 40, 0);
        MayReadPencil alone = Due.told(Due.with("p10;p10;"), 0, 0, 39);
        common(alone, 0, 40, 40);
    }

    private static void rarest(MayReadPencil x, int secret, int many) {
        DUE.is("rarest", x.rarest(0), secret);
        DUE.is("how many know it", x.rarest(1), many);
    }

    private static void rarest() {
        DUE.about("RAREST: the SECRET that fewest of PEOPLE, one at least, KNOW, of several the least; -9; "
                + "how many KNOW it (0 there is none);");
        MayReadPencil x = new MayReadPencil();
        rarest(x, -9, 0);
        Due.post(x, "s00;" + SIX);
        rarest(x, -9, 0);
        for (int one = 0; one < 6; one++) {
            x.tells(one, 0);
            rarest(x, 0, one + 1);
        }
        for (int one = 0; one < 5; one++) {
            x.tells(one, 39);
        }
        rarest(x, 39, 5);
        for (int one = 1; one < 6; one++) {
            x.tells(one, 38);
        }
        rarest(x, 38, 5);
        x.tells(5, 39);
        x.tells(0, 38);
        rarest(x, 0, 6);
    }

    private static void unknownSecrets() {
        DUE.about("how many SECRETS nobody of them KNOWS.");
        MayReadPencil x = new MayReadPencil();
        DUE.is("nobody is there", x.rarest(2), 40);
        Due.told(x, -1, 0, 39);
        DUE.is("she knows them, and is none of people", x.rarest(2), 40);
        x.comes(1, 0);
        DUE.is("he knows none", x.rarest(2), 40);
        Due.told(x, 0, 0, 38);
        DUE.is("all but one", x.rarest(2), 1);
        x.tells(0, 39);
        DUE.is("all", x.rarest(2), 0);
        DUE.is("0 by one and 39 by the other", Due.with("p10;p10;k000;k139;").rarest(2), 38);
    }

    private static void share(MayReadPencil x, long above, long below) {
        DUE.is("above", x.share(0), above);
        DUE.is("below", x.share(1), below);
    }

    private static void share() {
        DUE.about("SHARE: SECRETS SHE KNOWS over those that any, SHE too, KNOWS: a fraction (0 over 1 of none).");
        MayReadPencil x = new MayReadPencil();
        share(x, 0, 1);
        x.comes(1, 0);
        share(x, 0, 1);
        Due.told(x, 0, 0, 39);
        DUE.about("(Fractions are told in lowest terms; 0 as 0 over 1.)");
        share(x, 0, 1);
        x.tells(-1, 39);
        share(x, 1, 40);
        x.tells(-1, 0);
        share(x, 1, 20);
        Due.told(x, -1, 0, 29);
        share(x, 31, 40);
        Due.told(x, -1, 30, 38);
        share(x, 1, 1);
        share(Due.with("p10;p10;p10;k000;k101;k202;s01;"), 1, 3);
        MayReadPencil alone = Due.with("s05;");
        share(alone, 1, 1);
        alone.comes(1, 0);
        alone.tells(0, 5);
        share(alone, 1, 1);
        alone.tells(0, 6);
        share(alone, 1, 2);
    }

    private static MayReadPencil fullBag() {
        MayReadPencil x = Due.with(SIX);
        for (int one = 0; one < 6; one++) {
            Due.told(x, one, 0, 39);
        }
        x.days(7);
        return x;
    }

    private static void lamp() {
        DUE.about("LAMP: behind how many DAYS SHE has the LETTER of a place in the BAG (0 the first).");
        MayReadPencil x = fullBag();
        for (int place = 0; place < 24; place++) {
            DUE.is("place " + place, x.lamp(place), 1 + place / 3);
        }
        DUE.is("place 24", x.lamp(24), -1);
        DUE.is("place -1", x.lamp(-1), -1);
        MayReadPencil one = Due.with("p10;p10;k005;d01;");
        DUE.is("the only one", one.lamp(0), 1);
        DUE.is("none behind it", one.lamp(1), -1);
        DUE.is("an empty bag", new MayReadPencil().lamp(0), -1);
    }

    private static void spoilt() {
        DUE.about("SPOILT: how many LETTERS in the BAG would go to the DRAWER, were SHE to have them now, one by one "
                + "(KNOWN as they make it).");
        DUE.is("an empty bag", new MayReadPencil().bag(0), 0);
        MayReadPencil x = fullBag();
        DUE.is("nothing is forbidden", x.bag(0), 0);
        for (int secret = 0; secret < 40; secret++) {
            x.forbids(secret);
        }
        DUE.is("all 24", x.bag(0), 24);
        DUE.is("they stay", x.count(5), 24);
        DUE.is("the drawer has no more", x.count(3), 0);
        x.rubber(5);
        DUE.is("lead and press together", x.bag(0), 24);
        x.rubber(4);
        DUE.is("more than the rubber", x.bag(0), 0);
        String five = "p10;p10;p10;p10;p10;p10;f00;f10;f20;f30;f40;f50;";
        MayReadPencil known = Due.with(five, "k105;k206;k305;d01;x05;");
        DUE.is("6, read from the second, he knows then: not put into the third", known.bag(0), 2);
        MayReadPencil put = Due.with(five, "k105;k205;k305;d01;x05;s07;s08;");
        DUE.is("7 and 8 are put in, one each", put.bag(0), 1);
        DUE.is("he knows neither now", put.person(0, 3), 0);
    }

    private static void still() {
        DUE.about("STILL: the longest run of the next 60 DAYS on which nobody, nor SHE, KNOWS more than the DAY before.");
        DUE.is("nobody is there", new MayReadPencil().bag(1), 60);
        DUE.is("nobody knows more", Due.with(SIX + "s05;").bag(1), 60);
        // Known on the 2nd day, and by nobody else.
        DUE.is("one day of 60", Due.with("p10;p10;k005;").bag(1), 58);
        MayReadPencil first = Due.with("p10;p10;k005;d01;");
        DUE.is("the first day", first.bag(1), 59);
        // A bank's secret 11 is had on the 61st day, the ones before each five days ahead.
        MayReadPencil bank = Due.told(Due.with("p33;p10;"), 0, 11, 11);
        DUE.is("known on day 6", bank.bag(1), 54);
        MayReadPencil last = Due.told(Due.with("p33;p10;"), 0, 0, 11);
        Due.told(last, 1, 0, 10);
        Due.told(last, -1, 0, 10);
        DUE.is("known on the 61st day", last.bag(1), 60);
        last.days(1);
        DUE.is("known on the 60th of the next days", last.bag(1), 59);
        MayReadPencil she = Due.with("p10;p10;k005;k105;d01;");
        DUE.is("she alone knows more", she.bag(1), 59);
        // A writer's letter of every 3rd day is had on the next and passed on by lovers on the two behind that.
        MayReadPencil never = Due.told(Due.with("p00;p10;p10;p10;"), 0, 0, 19);
        never.days(3);
        DUE.is("no day is still", never.bag(1), 0);
    }

    private static void kinds() {
        DUE.about("KINDS: how many are of a KIND.");
        for (int kind = 0; kind < 8; kind++) {
            MayReadPencil x = new MayReadPencil();
            DUE.is("none of kind " + kind, x.kinds(kind), 0);
            for (int many = 1; many <= 6; many++) {
                x.comes(kind, many);
                DUE.is("of kind " + kind, x.kinds(kind), many);
            }
        }
        DUE.is("kind -1", new MayReadPencil().kinds(-1), -2);
        DUE.is("kind 8", new MayReadPencil().kinds(8), -2);
    }

    private static void busiest() {
        DUE.about("BUSIEST: whom most LETTERS in the BAG are FROM, of several the least; -9.");
        DUE.is("an empty bag", new MayReadPencil().bag(2), -9);
        DUE.is("people, but no letter", Due.with(SIX).bag(2), -9);
        DUE.is("the first alone", Due.with("p10;p10;k005;d01;").bag(2), 0);
        DUE.is("the last alone", Due.with(SIX + "k505;d01;").bag(2), 5);
        MayReadPencil full = fullBag();
        full.recalls(0);
        DUE.is("of several the least", full.bag(2), 1);
        MayReadPencil more = Due.with(SIX + "k105;k205;k305;k405;d01;", "k506;d01;k507;d01;");
        DUE.is("one of the first and one of the last", more.count(5), 2);
        DUE.is("the first of these", more.bag(2), 0);
        for (int one = 0; one < 5; one++) {
            more.recalls(one);
        }
        DUE.is("the last one's are left", more.bag(2), 5);
        more.recalls(5);
        DUE.is("none is left", more.bag(2), -9);
    }

    private static void image() {
        DUE.about("THE IMAGE: all that there is of I, but it, letters, the ROW, REFUSALS.");
        MayReadPencil x = fullBag();
        x.tells(-1, 39);
        x.forbids(3);
        x.rubber(18);
        DUE.is("it is taken", x.image(), 7);
        x.days(60);
        x.days(60);
        DUE.is("the bag is empty", x.count(5), 0);
        x.friend(0, 3);
        x.rubber(0);
        DUE.is("it is restored", x.restore(), 7);
        DUE.is("the bag is full", x.count(5), 24);
        DUE.is("the last letter", x.letter(23, 0), 5);
        DUE.is("the friend", x.person(0, 2), 1);
        DUE.is("what is written", x.person(0, 4), 21);
        DUE.is("rubber", x.count(2), 18);
        DUE.is("what she forbids", x.count(7), 1);
        DUE.is("restored once more", x.restore(), 7);
        MayReadPencil none = new MayReadPencil();
        DUE.is("an image of nobody", none.image(), 0);
        Due.post(none, SIX + "s05;x05;r18;d60;");
        DUE.is("nobody is restored", none.restore(), 0);
        int[] due = {0, 0, 6, 0, 0, 0, 0, 0, 0, 0, 0};
        for (int what = 0; what < due.length; what++) {
            DUE.is("count " + what, none.count(what), due[what]);
        }
        DUE.is("the first comes again", none.comes(1, 0), 0);
        DUE.is("his friend", none.person(0, 2), 1);
        DUE.is("he has written none", none.person(0, 4), 0);
        MayReadPencil last = new MayReadPencil();
        for (int i = 0; i < 16; i++) {
            last.days(60);
        }
        last.days(39);
        DUE.is("on the last day", last.image(), 999);
        DUE.is("restored on the last day", last.restore(), 999);
        DUE.is("no day more", last.days(1), -6);
    }

    private static void noImage() {
        DUE.about("It is RESTORED: DAY. -3 there is none.");
        MayReadPencil x = new MayReadPencil();
        x.rubber(1);
        DUE.is("none", x.restore(), -3);
        DUE.is("none is restored", x.count(2), 1);
        DUE.is("what can be taken back stays", x.count(10), 1);
        x.image();
        DUE.is("one", x.restore(), 0);
        DUE.is("refused once", x.count(13), 1);
    }

    private static void notOfTheImage() {
        DUE.about("all that there is of I, but it, letters, the ROW, REFUSALS.");
        MayReadPencil x = new MayReadPencil();
        x.image();
        x.rubber(1);
        DUE.is("another image", x.image(), 0);
        x.rubber(2);
        x.feed('r');
        x.row(7);
        x.lamp(0);
        x.restore();
        DUE.is("the latest image is restored", x.count(2), 1);
        DUE.is("letters stay", x.count(8), 1);
        DUE.is("the row stays", x.count(9), 1);
        DUE.is("refusals stay", x.count(11), 1);
        x.rubber(3);
        x.back();
        DUE.is("taking back leaves the image", x.restore(), 0);
        DUE.is("and its rubber", x.count(2), 1);
    }

    private static void row() {
        DUE.about("A ROW of numbers (0 .. 99; 12 at most)");
        MayReadPencil x = new MayReadPencil();
        DUE.is("none at first", x.count(9), 0);
        DUE.is("number -1", x.row(-1), -4);
        DUE.is("number 100", x.row(100), -6);
        DUE.is("none came", x.count(9), 0);
        for (int many = 1; many <= 12; many++) {
            DUE.is("one more", x.row(many == 1 ? 0 : 99), many);
        }
        DUE.is("a 13th", x.row(0), -6);
        DUE.is("a 13th of -1", x.row(-1), -4);
        DUE.is("twelve", x.count(9), 12);
    }

    private static void judged(int due, MayReadPencil x, int... row) {
        Due.withRow(x, row);
        DUE.is("judged, " + row.length, x.judge(), due);
        DUE.is("the row has none then", x.count(9), 0);
    }

    /** No run of calls has 7 .. 11 answered: of six at most the seventh is not there, which is told first. */
    private static void judged() {
        DUE.about("JUDGED: how many SECRETS PEOPLE 0, 1, .. KNOW: the first that is not so (nobody there, too); -9.");
        judged(-9, new MayReadPencil());
        judged(0, new MayReadPencil(), 0);
        judged(0, new MayReadPencil(), 0, 0, 0, 0, 0, 0, 0, 0, 0, 0, 0, 0);
        MayReadPencil six = Due.with(SIX);
        judged(-9, six);
        judged(-9, six, 0);
        judged(-9, six, 0, 0, 0, 0, 0, 0);
        judged(6, six, 0, 0, 0, 0, 0, 0, 0);
        judged(6, six, 0, 0, 0, 0, 0, 0, 0, 0, 0, 0, 0, 0);
        judged(5, six, 0, 0, 0, 0, 0, 1);
        judged(0, six, 1, 1, 1, 1, 1, 1);
        Due.told(six, 5, 0, 39);
        judged(-9, six, 0, 0, 0, 0, 0, 40);
        judged(5, six, 0, 0, 0, 0, 0, 99);
        judged(5, six, 0, 0, 0, 0, 0, 39);
    }

    private static void cleared() {
        DUE.about("The ROW has none then: how many it had.");
        MayReadPencil x = new MayReadPencil();
        DUE.is("none", x.clear(), 0);
        for (int many = 0; many < 12; many++) {
            x.row(many);
        }
        DUE.is("twelve", x.clear(), 12);
        DUE.is("none then", x.count(9), 0);
        DUE.is("none once more", x.clear(), 0);
        DUE.is("the first anew", x.row(0), 1);
    }

    private static void counts() {
        DUE.about("-9 for another what.");
        MayReadPencil x = new MayReadPencil();
        for (int what : new int[] {-1, 17, Integer.MIN_VALUE, Integer.MAX_VALUE}) {
            DUE.is("count " + what, x.count(what), -9);
        }
        for (int what = 0; what <= 16; what++) {
            DUE.is("count " + what, x.count(what), what == 2 ? 6 : 0);
        }
        DUE.about("0 PEOPLE, 1 DAY, 2 RUBBER, 3 DRAWER, 4 RUBBED, 5 LETTERS in the BAG, 6 SECRETS SHE KNOWS, "
                + "7 SHE FORBIDS, 8 letters, 9 in the ROW, 10 what can be TAKEN BACK, 11 .. 16 REFUSALS -1 .. -6.");
        // Of 18 letters had, the six of each of three days, she knows 0 .. 8.
        MayReadPencil full = Due.told(fullBag(), -1, 30, 39);
        full.rubber(18);
        for (int i = 0; i < 96; i++) {
            full.feed('r');
        }
        for (int i = 0; i < 12; i++) {
            full.row(99);
        }
        int[] due = {6, 7, 18, 0, 0, 24, 10 + 9, 0, 96, 12, 8};
        for (int what = 0; what < due.length; what++) {
            DUE.is("count " + what + " of a full one", full.count(what), due[what]);
        }
    }
}
