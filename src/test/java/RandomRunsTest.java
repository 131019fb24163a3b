import java.util.Random;

/** Random runs of calls, the same each time, on the program and on the document told a second time. */
public final class RandomRunsTest {
    private static final int RUNS = 400;
    private static final int CALLS = 512;
    private static final int BY_ROW = 15;

    private final Due due;
    private final Random random;
    private final MayReadPencil x = new MayReadPencil();
    private final PlainPencil plain = new PlainPencil();
    private int calls;

    private RandomRunsTest(Due due, int run) {
        this.due = due;
        this.random = new Random(run);
    }

    public static void main(String[] args) {
        Due due = new Due("random runs");
        for (int run = 0; run < RUNS && !due.hasWrong(); run++) {
            new RandomRunsTest(due, run).play();
        }
        due.end();
    }

    private void play() {
        int people = random.nextInt(5) == 0 ? random.nextInt(7) : 4 + random.nextInt(3);
        tell(village(people));
        int changes = 20 + random.nextInt(180);
        while (calls < CALLS && !due.hasWrong()) {
            if (random.nextInt(400) < changes) {
                change();
            } else {
                ask();
            }
        }
    }

    private void is(String call, long got, long want) {
        calls++;
        due.is(call, got, want);
    }

    private int upTo(int greatest) {
        int edge = random.nextInt(40);
        if (edge == 0) {
            return -1 - random.nextInt(2) * random.nextInt(Integer.MAX_VALUE);
        }
        if (edge == 1) {
            return greatest + 1;
        }
        return edge == 2 ? Integer.MAX_VALUE - random.nextInt(2) : random.nextInt(greatest + 1);
    }

    private int one() {
        int people = plain.now.people.size();
        return people == 0 || random.nextInt(20) == 0 ? random.nextInt(9) - 2 : random.nextInt(people);
    }

    private int oneOrShe() {
        return random.nextInt(6) == 0 ? -1 : one();
    }

    /** More often one of the secrets that anybody knows. */
    private int secret() {
        int secret = upTo(39);
        for (int i = 0; i < 30 && random.nextInt(20) > 0; i++) {
            int asked = random.nextInt(40);
            if (plain.now.people.stream().anyMatch(one -> one.knows.contains(asked))) {
                return asked;
            }
        }
        return secret;
    }

    private String village(int people) {
        StringBuilder text = new StringBuilder();
        for (int i = 0; i < people; i++) {
            text.append('p').append(random.nextInt(8)).append(random.nextInt(10)).append(';');
        }
        for (int i = 0; i < 6 && people > 0; i++) {
            text.append('k').append(random.nextInt(people)).append(twoDigits(40)).append(';');
        }
        for (int i = 0; i < 4; i++) {
            text.append("xsrf".charAt(i % 3)).append(twoDigits(i % 3 == 2 ? 19 : 40)).append(';');
        }
        return text.length() > 96 ? text.substring(0, 96) : text.toString();
    }

    private String twoDigits(int below) {
        int number = random.nextInt(below);
        return "" + (char) ('0' + number / 10) + (char) ('0' + number % 10);
    }

    private String someText() {
        StringBuilder text = new StringBuilder();
        int statements = random.nextInt(7);
        for (int i = 0; i < statements; i++) {
            char head = "pfkksxxrd".charAt(random.nextInt(9));
            int below = random.nextInt(15) == 0 ? 100 : head == 'd' ? 12 : head == 'r' ? 19 : head == 'f' ? 60 : 40;
            text.append(head).append(head == 'k' ? "" + random.nextInt(plain.now.people.size() + 1) : "")
                    .append(twoDigits(head == 'p' ? 80 : below)).append(';');
        }
        if (random.nextInt(5) == 0 && text.length() > 0) {
            int place = random.nextInt(text.length());
            switch (random.nextInt(3)) {
                case 0 -> text.setLength(place);
                case 1 -> text.deleteCharAt(place);
                default -> text.setCharAt(place, (char) random.nextInt(128));
            }
        }
        return text.toString();
    }

    private void tell(String text) {
        for (int i = 0; i < text.length() && calls < CALLS - 1; i++) {
            is("feed", x.feed(text.charAt(i)), plain.feed(text.charAt(i)));
        }
        is("post() of " + text, x.post(), plain.post());
    }

    private void change() {
        int p = one();
        int q = oneOrShe();
        int s = random.nextBoolean() ? upTo(39) : secret();
        int v = upTo(18);
        int f = upTo(5);
        int n = random.nextInt(12) == 0 ? upTo(60) : 1 + random.nextInt(4);
        int what = random.nextInt(24);
        switch (what) {
            case 0 -> is("comes", x.comes(v - 1, s), plain.comes(v - 1, s));
            case 1, 2, 3 -> is("friend " + p + " " + f, x.friend(p, f), plain.friend(p, f));
            case 4, 5, 6, 7, 8 -> is("tells " + q + " " + s, x.tells(q, s), plain.tells(q, s));
            case 9, 10 -> is("forbids " + s, x.forbids(s), plain.forbids(s));
            case 11, 12 -> is("rubber " + v, x.rubber(v), plain.rubber(v));
            case 13 -> is("recalls " + p, x.recalls(p), plain.recalls(p));
            case 14, 15, 16, 17, 18 -> is("days " + n, x.days(n), plain.days(n));
            case 19, 20 -> is("back", x.back(), plain.back());
            case 21 -> is("image", x.image(), plain.image());
            case 22 -> is("restore", x.restore(), plain.restore());
            default -> tell(someText());
        }
    }

    private void ask() {
        int way = random.nextInt(6);
        if (way == 4 && calls + BY_ROW <= CALLS) {
            askByRow();
        } else if (way == 5) {
            askOthers();
        } else if (way >= 2) {
            askAhead();
        } else {
            askState();
        }
    }

    private void askState() {
        int p = one();
        int q = oneOrShe();
        int s = upTo(39);
        int place = upTo(Math.max(0, plain.now.bag.size() - 1));
        int what = upTo(8);
        int each = upTo(16);
        switch (random.nextInt(7)) {
            case 0 -> is("person " + p + " " + what, x.person(p, what), plain.person(p, what));
            case 1 -> is("knows " + q + " " + s, x.knows(q, s), plain.knows(q, s));
            case 2 -> is("above " + q + " " + s, x.above(q, s), plain.above(q, s));
            case 3, 4 -> is("letter " + place + " " + what, x.letter(place, what), plain.letter(place, what));
            case 5 -> is("feed " + each * 16, x.feed(each * 16), plain.feed(each * 16));
            default -> is("count " + each, x.count(each), plain.count(each));
        }
    }

    private void askAhead() {
        int p = one();
        int q = oneOrShe();
        int r = one();
        int s = secret();
        int n = upTo(60);
        int m = upTo(30);
        int what = upTo(1);
        int t = 2 + upTo(18);
        int few = upTo(7);
        switch (random.nextInt(16)) {
            case 0 -> is("knownIn " + q + " " + n, x.knownIn(q, n), plain.knownIn(q, n));
            case 1 -> is("then " + n + " " + few, x.then(n, few / 2), plain.then(n, few / 2));
            case 2 -> is("when " + q + " " + s, x.when(q, s), plain.when(q, s));
            case 3 -> is("first " + s, x.first(s), plain.first(s));
            case 4 -> is("letHer " + p + " " + m, x.letHer(p, m, what), plain.letHer(p, m, what));
            case 5 -> is("rubberFor " + p + " " + s, x.rubberFor(p, s, n), plain.rubberFor(p, s, n));
            case 6 -> is("ink " + s + " " + m, x.ink(s, m), plain.ink(s, m));
            case 7 -> is("friendFor", x.friendFor(p, r, s, what), plain.friendFor(p, r, s, what));
            case 8 -> is("swap " + m, x.swap(m), plain.swap(m));
            case 9 -> is("shade " + n, x.shade(n), plain.shade(n));
            case 10, 11 -> is("two " + p + " " + r + " " + m, x.two(p, r, m), plain.two(p, r, m));
            case 12, 13 -> is("damp", x.damp(p, s, few, t, what), plain.damp(p, s, few, t, what));
            case 14 -> is("lots " + few + " " + n + " " + what, x.lots(few, n * 77777777, what),
                    plain.lots(few, n * 77777777, what));
            default -> is("bag " + few, x.bag(few / 2), plain.bag(few / 2));
        }
    }

    /** A row that tells what is so, at least for a while, or anything. */
    private void askByRow() {
        int p = one();
        int q = one();
        int what = upTo(1);
        is("clear", x.clear(), plain.clear());
        int length = random.nextInt(14);
        int way = random.nextInt(7);
        for (int i = 0; i < length; i++) {
            int v = random.nextInt(40) == 0 ? upTo(99) : numberForRow(way, p, i);
            is("row " + v, x.row(v), plain.row(v));
        }
        switch (way) {
            case 0, 1, 6 -> is("whatKind", x.whatKind(p, what), plain.whatKind(p, what));
            case 2, 3 -> is("toWhom", x.toWhom(p, q), plain.toWhom(p, q));
            default -> is("judge", x.judge(), plain.judge());
        }
    }

    private int numberForRow(int way, int p, int i) {
        if (way <= 3 && plain.now.there(p) && i < 13) {
            PlainPencil.Person one = plain.now.people.get(p);
            return way <= 1 ? PlainPencil.lead(one.kind, one.figure, plain.now.day + 1 + i)
                    : plain.mind().go(i).known(p).size();
        }
        boolean there = way <= 5 && plain.now.there(i);
        return there ? plain.now.known(i).size() : upTo(99);
    }

    private void askOthers() {
        int p = one();
        int q = one();
        int what = random.nextInt(3) == 0 ? upTo(2) : random.nextInt(3);
        int kind = upTo(7);
        int place = upTo(Math.max(0, plain.now.bag.size() - 1));
        switch (random.nextInt(6)) {
            case 0 -> is("reach " + p, x.reach(p, what), plain.reach(p, what));
            case 1 -> is("common " + p + " " + q, x.common(p, q, what), plain.common(p, q, what));
            case 2 -> is("rarest " + what, x.rarest(what), plain.rarest(what));
            case 3 -> is("share " + what, x.share(what), plain.share(what));
            case 4 -> is("lamp " + place, x.lamp(place), plain.lamp(place));
            default -> is("kinds " + kind, x.kinds(kind), plain.kinds(kind));
        }
    }
}
