import java.util.ArrayList;
import java.util.Arrays;
import java.util.HashSet;
import java.util.List;
import java.util.Set;
import java.util.function.Consumer;
import java.util.function.Supplier;

/** The refusals of each call: the last taken and the first refused on either side, their order, and what changes. */
public final class RefusalsTest {
    private static final int NOBODY = -1;
    private static final int OTHER = -2;
    private static final int STATE = -3;
    private static final int BELOW = -4;
    private static final int ROOM = -6;
    private static final long OF_SHADE = 1000000000L;
    private static final long OF_LONGS = 4000000000000000000L;
    private static final int[] MOSTLY = {NOBODY, BELOW, ROOM, OTHER};
    private static final int[] OF_COMES = {OTHER, BELOW, ROOM};

    private static final Range ONE = new Range(0, 1, NOBODY, NOBODY);
    private static final Range ONE_OR_SHE = new Range(-1, 1, NOBODY, NOBODY);
    private static final Range PLACE = new Range(0, 0, NOBODY, NOBODY);
    private static final Range SECRET = number(0, 39);
    private static final Range ANY = number(Integer.MIN_VALUE, Integer.MAX_VALUE);

    private static final Due DUE = new Due("refusals");
    private static final List<Call> CALLS = new ArrayList<>();

    private interface Ask {
        long of(MayReadPencil x, int[] a);
    }

    /** The least and the greatest that is taken of a number, and what is answered below and above. */
    private record Range(int least, int greatest, int below, int above) {
        int refusal(int v) {
            if (v < least) {
                return below;
            }
            return v > greatest ? above : 0;
        }

        /** The last that are taken and the first that are refused on either side, and the very ends. */
        int[] edges() {
            Set<Integer> edges = new HashSet<>(List.of(least, greatest, Integer.MIN_VALUE, Integer.MAX_VALUE));
            if (least > Integer.MIN_VALUE) {
                edges.add(least - 1);
            }
            if (greatest < Integer.MAX_VALUE) {
                edges.add(greatest + 1);
            }
            return edges.stream().mapToInt(Integer::intValue).sorted().toArray();
        }
    }

    private record Call(String says, boolean changes, boolean notTwice, int[] order, Ask ask, Range... ranges) {
        int refusal(int... a) {
            Set<Integer> fit = new HashSet<>();
            for (int i = 0; i < a.length; i++) {
                fit.add(ranges[i].refusal(a[i]));
            }
            if (notTwice && a[0] == a[1]) {
                fit.add(NOBODY);
            }
            for (int number : order) {
                if (fit.contains(number)) {
                    return number;
                }
            }
            return 0;
        }

        long answer(int refusal) {
            if (says.startsWith("`int shade(")) {
                return OF_SHADE - refusal;
            }
            return says.startsWith("`long") ? OF_LONGS - refusal : refusal;
        }
    }

    public static void main(String[] args) {
        askingCalls();
        askingAheadCalls();
        changingCalls();
        for (Call call : CALLS) {
            DUE.about(call.says);
            edgesOf(call);
        }
        ofAFullObject();
        ofANewObject();
        stateRefusals();
        ofShadeAndLongs();
        nothingIsRefused();
        howManyThereWere();
        DUE.end();
    }

    private static Range number(int least, int greatest) {
        return new Range(least, greatest, BELOW, ROOM);
    }

    private static Range what(int greatest) {
        return new Range(0, greatest, OTHER, OTHER);
    }

    private static void asks(String says, Ask ask, Range... ranges) {
        CALLS.add(new Call(says, false, false, MOSTLY, ask, ranges));
    }

    private static void asksOfTwo(String says, Ask ask, Range... ranges) {
        CALLS.add(new Call(says, false, true, MOSTLY, ask, ranges));
    }

    private static void changes(String says, int[] order, Ask ask, Range... ranges) {
        CALLS.add(new Call(says, true, false, order, ask, ranges));
    }

    private static void askingCalls() {
        asks("`int person(int person, int what)`", (x, a) -> x.person(a[0], a[1]), ONE, what(8));
        asks("`int knows(int person, int secret)`", (x, a) -> x.knows(a[0], a[1]), ONE_OR_SHE, SECRET);
        asks("`int above(int person, int secret)`", (x, a) -> x.above(a[0], a[1]), ONE_OR_SHE, SECRET);
        asks("`int letter(int place, int what)`", (x, a) -> x.letter(a[0], a[1]), PLACE, what(6));
        asks("`int whatKind(int person, int what)`", (x, a) -> x.whatKind(a[0], a[1]), ONE, what(1));
        asks("`int toWhom(int person, int told)`", (x, a) -> x.toWhom(a[0], a[1]), ONE, ONE);
        asks("`int reach(int person, int what)`", (x, a) -> x.reach(a[0], a[1]), ONE, what(1));
        asksOfTwo("`int common(int one, int other, int what)`", (x, a) -> x.common(a[0], a[1], a[2]),
                ONE, ONE, what(2));
        asks("`int rarest(int what)`", (x, a) -> x.rarest(a[0]), what(2));
        asks("`long share(int part)`", (x, a) -> x.share(a[0]), what(1));
        asks("`int lamp(int place)`", (x, a) -> x.lamp(a[0]), PLACE);
        asks("`int bag(int what)`", (x, a) -> x.bag(a[0]), what(2));
        asks("`int kinds(int kind)`", (x, a) -> x.kinds(a[0]), what(7));
        asks("`int count(int what)`", (x, a) -> x.count(a[0]), ANY);
    }

    private static void askingAheadCalls() {
        asks("`int knownIn(int person, int n)`", (x, a) -> x.knownIn(a[0], a[1]), ONE_OR_SHE, number(0, 60));
        asks("`int then(int n, int what)`", (x, a) -> x.then(a[0], a[1]), number(0, 60), what(3));
        asks("`int when(int person, int secret)`", (x, a) -> x.when(a[0], a[1]), ONE_OR_SHE, SECRET);
        asks("`int first(int secret)`", (x, a) -> x.first(a[0]), SECRET);
        asks("`int letHer(int person, int n, int what)`", (x, a) -> x.letHer(a[0], a[1], a[2]),
                ONE, number(0, 30), what(1));
        asks("`int rubberFor(int person, int secret, int n)`", (x, a) -> x.rubberFor(a[0], a[1], a[2]),
                ONE, SECRET, number(0, 60));
        asks("`int ink(int secret, int n)`", (x, a) -> x.ink(a[0], a[1]), SECRET, number(0, 30));
        asks("`int friendFor(int person, int told, int secret, int what)`",
                (x, a) -> x.friendFor(a[0], a[1], a[2], a[3]), ONE, ONE, SECRET, what(1));
        asks("`int swap(int n)`", (x, a) -> x.swap(a[0]), number(0, 30));
        asks("`int shade(int n)`", (x, a) -> x.shade(a[0]), number(0, 60));
        asksOfTwo("`int two(int one, int other, int n)`", (x, a) -> x.two(a[0], a[1], a[2]),
                ONE, ONE, number(1, 30));
        asks("`long damp(int person, int secret, int n, int t, int part)`",
                (x, a) -> x.damp(a[0], a[1], a[2], a[3], a[4]), ONE, SECRET, number(0, 7), number(2, 20), what(1));
        asks("`int lots(int n, int z, int what)`", (x, a) -> x.lots(a[0], a[1], a[2]), number(1, 20), ANY, what(1));
    }

    private static void changingCalls() {
        changes("`int feed(int letter)`", MOSTLY, (x, a) -> x.feed(a[0]), number(0, 255));
        changes("`int comes(int kind, int figure)`", OF_COMES, (x, a) -> x.comes(a[0], a[1]), what(7), number(0, 9));
        changes("`int friend(int person, int friend)`", MOSTLY, (x, a) -> x.friend(a[0], a[1]), ONE, number(0, 5));
        changes("`int tells(int person, int secret)`", MOSTLY, (x, a) -> x.tells(a[0], a[1]), ONE_OR_SHE, SECRET);
        changes("`int forbids(int secret)`", MOSTLY, (x, a) -> x.forbids(a[0]), SECRET);
        changes("`int rubber(int v)`", MOSTLY, (x, a) -> x.rubber(a[0]), number(0, 18));
        changes("`int recalls(int person)`", MOSTLY, (x, a) -> x.recalls(a[0]), ONE);
        changes("`int days(int n)`", MOSTLY, (x, a) -> x.days(a[0]), number(1, 60));
        changes("`int row(int v)`", MOSTLY, (x, a) -> x.row(a[0]), number(0, 99));
    }

    private static void edgesOf(Call call) {
        for (int[] a : argumentsOf(call)) {
            int refusal = call.refusal(a);
            String told = Arrays.toString(a);
            ask(call, a, refusal, told);
            if (refusal != 0 || !call.changes) {
                DUE.isSo("nothing changes by " + told, Sight.isSame(Sight::usedOne, x -> call.ask.of(x, a)));
            }
        }
    }

    private static void ask(Call call, int[] a, int refusal, String told) {
        MayReadPencil x = Sight.usedOne();
        long got = call.ask.of(x, a);
        if (refusal != 0) {
            DUE.is(told, got, call.answer(refusal));
        } else {
            DUE.isSo(told + " is taken, and not " + got, got == -9 || got >= 0 && got < OF_SHADE);
        }
        counted(x, told, refusal);
    }

    /** That of all refusals the one was counted once, and no other. */
    private static void counted(MayReadPencil x, String told, int refusal) {
        for (int number = -1; number >= -6; number--) {
            DUE.is("refusals " + number + " behind " + told, x.count(10 - number), number == refusal ? 1 : 0);
        }
    }

    private static List<int[]> argumentsOf(Call call) {
        List<int[]> all = new ArrayList<>();
        all.add(new int[0]);
        for (Range range : call.ranges) {
            List<int[]> longer = new ArrayList<>();
            for (int[] a : all) {
                for (int edge : range.edges()) {
                    int[] more = Arrays.copyOf(a, a.length + 1);
                    more[a.length] = edge;
                    longer.add(more);
                }
            }
            all = longer;
        }
        return all;
    }

    private static void refused(String told, Supplier<MayReadPencil> made, Ask ask, int refusal) {
        MayReadPencil x = made.get();
        DUE.is(told, ask.of(x, null), refusal);
        counted(x, told, refusal);
        Consumer<MayReadPencil> call = y -> ask.of(y, null);
        DUE.isSo("nothing changes by " + told, Sight.isSame(made, call));
    }

    private static MayReadPencil ofSix() {
        MayReadPencil x = Due.with("p10;p10;p10;p10;p10;p10;k005;d01;");
        x.image();
        x.rubber(3);
        return x;
    }

    private static MayReadPencil ofLetters() {
        MayReadPencil x = new MayReadPencil();
        for (int i = 0; i < 96; i++) {
            x.feed("r01;".charAt(i % 4));
        }
        return x;
    }

    private static MayReadPencil ofRow() {
        return Due.withRow(new MayReadPencil(), 0, 1, 2, 3, 4, 5, 6, 7, 8, 9, 10, 99);
    }

    private static MayReadPencil onDay(int day) {
        MayReadPencil x = Due.with("p10;p10;k005;");
        while (x.count(1) + 60 <= day) {
            x.days(60);
        }
        x.days(day - x.count(1));
        return x;
    }

    private static void ofAFullObject() {
        DUE.about("-2; -4; -6 (9; 6 there are).");
        refused("a seventh", RefusalsTest::ofSix, (x, a) -> x.comes(0, 0), ROOM);
        refused("a seventh of figure 10", RefusalsTest::ofSix, (x, a) -> x.comes(7, 10), ROOM);
        refused("a seventh of figure -1", RefusalsTest::ofSix, (x, a) -> x.comes(7, -1), BELOW);
        refused("a seventh of kind 8", RefusalsTest::ofSix, (x, a) -> x.comes(8, 0), OTHER);
        refused("a seventh of kind -1, figure -1", RefusalsTest::ofSix, (x, a) -> x.comes(-1, -1), OTHER);
        refused("a seventh of kind 8, figure 10", RefusalsTest::ofSix, (x, a) -> x.comes(8, 10), OTHER);
        DUE.about("-4; -6 (255; 96, too).");
        refused("letter 97", RefusalsTest::ofLetters, (x, a) -> x.feed('r'), ROOM);
        refused("letter 97 of 255", RefusalsTest::ofLetters, (x, a) -> x.feed(255), ROOM);
        refused("letter 97 of 256", RefusalsTest::ofLetters, (x, a) -> x.feed(256), ROOM);
        refused("letter 97 of -1", RefusalsTest::ofLetters, (x, a) -> x.feed(-1), BELOW);
        DUE.about("-4; -6 (99; 12, too).");
        refused("a 13th number", RefusalsTest::ofRow, (x, a) -> x.row(0), ROOM);
        refused("a 13th number of 100", RefusalsTest::ofRow, (x, a) -> x.row(100), ROOM);
        refused("a 13th number of -1", RefusalsTest::ofRow, (x, a) -> x.row(-1), BELOW);
        DUE.about("-4 1; -6 (60; DAY above 999).");
        DUE.is("60 days to day 999", onDay(939).days(60), 1);
        refused("60 days to day 1000", () -> onDay(940), (x, a) -> x.days(60), ROOM);
        refused("61 days from day 939", () -> onDay(939), (x, a) -> x.days(61), ROOM);
        DUE.is("a day to day 999", onDay(998).days(1), 1);
        refused("a day to day 1000", () -> onDay(999), (x, a) -> x.days(1), ROOM);
        refused("no day on day 999", () -> onDay(999), (x, a) -> x.days(0), BELOW);
        refused("-1 days on day 999", () -> onDay(999), (x, a) -> x.days(-1), BELOW);
    }

    private static void nobodyThere(String told, Ask ask, long due) {
        MayReadPencil x = new MayReadPencil();
        DUE.is(told, ask.of(x, null), due);
        counted(x, told, NOBODY);
        DUE.isSo("nothing changes by " + told, Sight.isSame(MayReadPencil::new, y -> ask.of(y, null)));
    }

    private static void ofANewObject() {
        DUE.about("-1 NOBODY: no such PERSON, one twice, no such LETTER.");
        nobodyThere("person(0, 0)", (x, a) -> x.person(0, 0), NOBODY);
        nobodyThere("knows(0, 0)", (x, a) -> x.knows(0, 0), NOBODY);
        nobodyThere("above(0, 0)", (x, a) -> x.above(0, 0), NOBODY);
        nobodyThere("letter(0, 0)", (x, a) -> x.letter(0, 0), NOBODY);
        nobodyThere("friend(0, 0)", (x, a) -> x.friend(0, 0), NOBODY);
        nobodyThere("tells(0, 0)", (x, a) -> x.tells(0, 0), NOBODY);
        nobodyThere("recalls(0)", (x, a) -> x.recalls(0), NOBODY);
        nobodyThere("knownIn(0, 0)", (x, a) -> x.knownIn(0, 0), NOBODY);
        nobodyThere("when(0, 0)", (x, a) -> x.when(0, 0), NOBODY);
        nobodyThere("letHer(0, 0, 0)", (x, a) -> x.letHer(0, 0, 0), NOBODY);
        nobodyThere("rubberFor(0, 0, 0)", (x, a) -> x.rubberFor(0, 0, 0), NOBODY);
        nobodyThere("friendFor(0, 0, 0, 0)", (x, a) -> x.friendFor(0, 0, 0, 0), NOBODY);
        nobodyThere("whatKind(0, 0)", (x, a) -> x.whatKind(0, 0), NOBODY);
        nobodyThere("toWhom(0, 0)", (x, a) -> x.toWhom(0, 0), NOBODY);
        nobodyThere("two(0, 1, 1)", (x, a) -> x.two(0, 1, 1), NOBODY);
        nobodyThere("damp(0, 0, 0, 2, 0)", (x, a) -> x.damp(0, 0, 0, 2, 0), OF_LONGS - NOBODY);
        nobodyThere("reach(0, 0)", (x, a) -> x.reach(0, 0), NOBODY);
        nobodyThere("common(0, 1, 0)", (x, a) -> x.common(0, 1, 0), NOBODY);
        nobodyThere("lamp(0)", (x, a) -> x.lamp(0), NOBODY);
    }

    private static void stateRefusals() {
        DUE.about("TAKEN BACK: how many can still be. -3 none.");
        refused("back() on a new object", MayReadPencil::new, (x, a) -> x.back(), STATE);
        refused("back() behind comes()", () -> {
            MayReadPencil x = new MayReadPencil();
            x.rubber(3);
            x.comes(0, 0);
            return x;
        }, (x, a) -> x.back(), STATE);
        DUE.about("It is RESTORED: DAY. -3 there is none.");
        refused("restore() on a new object", MayReadPencil::new, (x, a) -> x.restore(), STATE);
        refused("restore() where something can be taken back", () -> {
            MayReadPencil x = new MayReadPencil();
            x.rubber(3);
            return x;
        }, (x, a) -> x.restore(), STATE);
    }

    private static void ofShadeAndLongs() {
        DUE.about("Of shade() 1000000000 less them (-1 as 1000000001), "
                + "of longs 4000000000000000000 less them (-1 as 4000000000000000001).");
        MayReadPencil x = Sight.usedOne();
        DUE.is("shade, -1 days", x.shade(-1), 1000000004L);
        DUE.is("shade, 61 days", x.shade(61), 1000000006L);
        DUE.is("share of no part", x.share(-1), 4000000000000000002L);
        DUE.is("damp of nobody", x.damp(2, 0, 0, 2, 0), 4000000000000000001L);
        DUE.is("damp of no part", x.damp(0, 0, 0, 2, 2), 4000000000000000002L);
        DUE.is("damp, -1 days", x.damp(0, 0, -1, 2, 0), 4000000000000000004L);
        DUE.is("damp, 8 days", x.damp(0, 0, 8, 2, 0), 4000000000000000006L);
    }

    /** What a call without refusals answers is none of them, though it may look like one. */
    private static void nothingIsRefused() {
        DUE.about("-9 for another what.");
        MayReadPencil x = new MayReadPencil();
        x.count(-1);
        x.count(17);
        DUE.is("post() of none", x.post(), -1000);
        DUE.is("judge() of none", x.judge(), -9);
        DUE.is("clear() of none", x.clear(), 0);
        DUE.is("image() of nothing", x.image(), 0);
        DUE.is("above() of none", x.above(-1, 0), -9);
        DUE.is("first() of none", x.first(0), -9);
        DUE.is("swap() of none", x.swap(0), -9);
        DUE.is("bag(2) of none", x.bag(2), -9);
        DUE.is("rarest(0) of none", x.rarest(0), -9);
        counted(x, "calls that are not refused", 0);
    }

    /** No call tells -5, so count(15) is 0 in every run of calls. */
    private static void howManyThereWere() {
        DUE.about("11 .. 16 REFUSALS -1 .. -6.");
        MayReadPencil x = Sight.usedOne();
        Ask[] each = {(y, a) -> y.lamp(9), (y, a) -> y.kinds(9), (y, a) -> y.rubber(-1), (y, a) -> y.shade(61),
            (y, a) -> y.share(2), (y, a) -> y.damp(0, 0, 0, 1, 0), (y, a) -> y.two(0, 0, 1)};
        for (Ask ask : each) {
            ask.of(x, null);
        }
        int[] due = {2, 2, 0, 2, 0, 1};
        for (int i = 0; i < due.length; i++) {
            DUE.is("count(" + (11 + i) + ")", x.count(11 + i), due[i]);
        }
        x.back();
        x.restore();
        x.image();
        x.post();
        DUE.is("they are not taken back, restored or told away", x.count(11), 2);
        MayReadPencil often = new MayReadPencil();
        for (int i = 0; i < 511; i++) {
            often.lamp(0);
        }
        DUE.is("511 calls refused, told by the 512th", often.count(11), 511);
    }
}
