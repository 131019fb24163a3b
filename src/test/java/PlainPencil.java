import java.math.BigInteger;
import java.util.ArrayDeque;
import java.util.ArrayList;
import java.util.Arrays;
import java.util.Collections;
import java.util.Deque;
import java.util.HashSet;
import java.util.List;
import java.util.Set;
import java.util.SortedSet;
import java.util.TreeSet;
import java.util.function.IntPredicate;
import java.util.regex.Matcher;
import java.util.regex.Pattern;

/**
 * The document told a second time, in sets and lists and without a thought of cost, so that random runs of calls can
 * be compared with the program.
 */
final class PlainPencil {
    static final List<String> KINDS =
            List.of("WRITER", "LOVER", "SOLDIER", "BANK", "SPY", "WIDOW", "CHILD", "DESERTER");

    record Letter(int from, int to, int lead, int press, SortedSet<Integer> clauses) {
    }

    static final class Person {
        String kind;
        int figure;
        int friend;
        final SortedSet<Integer> knows = new TreeSet<>();
        final SortedSet<Integer> written = new TreeSet<>();

        Person(String kind, int figure, int friend) {
            this.kind = kind;
            this.figure = figure;
            this.friend = friend;
        }

        Person(Person other) {
            this(other.kind, other.figure, other.friend);
            knows.addAll(other.knows);
            written.addAll(other.written);
        }
    }

    static int lead(String kind, int figure, int d) {
        return switch (kind) {
            case "WRITER" -> d % 2 == 0 ? 0 : figure;
            case "LOVER" -> figure / 2 + 1;
            case "SOLDIER" -> new int[] {4, 1, 7}[d % 3];
            case "BANK" -> d % (figure + 2) == 0 ? 9 : 0;
            case "SPY" -> lead("BANK", figure, d) == 0 && d % 2 == 1 ? 5 : lead("BANK", figure, d);
            case "WIDOW" -> lead("LOVER", figure, d) + 2;
            case "CHILD" -> lead("SOLDIER", figure, d) - 1;
            default -> 9 - lead("CHILD", figure, d);
        };
    }

    static int press(String kind, int figure) {
        return switch (kind) {
            case "WRITER" -> 2;
            case "LOVER" -> 2 * press("WRITER", figure) + figure / 3;
            case "SOLDIER" -> 1;
            case "BANK" -> 5;
            case "SPY" -> 0;
            case "WIDOW" -> press("LOVER", figure) - 3;
            case "CHILD" -> press("SOLDIER", figure) + 4;
            default -> press("CHILD", figure);
        };
    }

    static int every(String kind, int figure) {
        return switch (kind) {
            case "WRITER" -> 3;
            case "LOVER" -> 1;
            case "SOLDIER" -> figure / 2 + 2;
            case "BANK" -> 5;
            case "SPY" -> every("BANK", figure) - 2;
            case "WIDOW" -> every("LOVER", figure) + 2;
            case "CHILD" -> every("SOLDIER", figure) + 1;
            default -> 2 * every("CHILD", figure);
        };
    }

    static int picks(String kind) {
        return switch (kind) {
            case "WRITER", "BANK" -> 1;
            case "LOVER" -> 3;
            case "SOLDIER", "CHILD" -> 2;
            case "SPY" -> picks("BANK") + 1;
            case "WIDOW" -> picks("LOVER") - 1;
            default -> picks("CHILD") + 1;
        };
    }

    static final class State {
        final List<Person> people = new ArrayList<>();
        final List<Letter> bag = new ArrayList<>();
        final SortedSet<Integer> she = new TreeSet<>();
        final Set<Integer> forbidden = new HashSet<>();
        int rubber = 6;
        int drawer;
        int rubbed;
        int day;

        // In mind only.
        final Set<Integer> inkWriters = new HashSet<>();
        boolean damp;
        boolean purple;

        State() {
        }

        State(State other) {
            other.people.forEach(one -> people.add(new Person(one)));
            bag.addAll(other.bag);
            she.addAll(other.she);
            forbidden.addAll(other.forbidden);
            rubber = other.rubber;
            drawer = other.drawer;
            rubbed = other.rubbed;
            day = other.day;
        }

        boolean there(int number) {
            return number >= 0 && number < people.size();
        }

        SortedSet<Integer> known(int number) {
            return number == -1 ? she : people.get(number).knows;
        }

        int together() {
            return people.stream().mapToInt(one -> one.knows.size()).sum();
        }

        /** Whether it went to the drawer. */
        boolean have(Letter letter) {
            Set<Integer> left = new TreeSet<>(letter.clauses());
            SortedSet<Integer> his = people.get(letter.to()).knows;
            if (letter.lead() != 0 && !(purple && letter.lead() == 5)) {
                she.addAll(letter.clauses());
                if (letter.lead() + letter.press() <= rubber && !damp) {
                    for (int secret : letter.clauses()) {
                        if (forbidden.contains(secret)) {
                            left.remove(secret);
                            rubbed = Math.min(9999, rubbed + 1);
                        }
                    }
                    if (left.isEmpty()) {
                        she.stream().filter(s -> !forbidden.contains(s) && !his.contains(s)).findFirst()
                                .ifPresent(left::add);
                    }
                }
            }
            if (left.isEmpty()) {
                drawer = Math.min(999, drawer + 1);
                return true;
            }
            his.addAll(left);
            return false;
        }

        void aDay() {
            day++;
            for (int i = 0; i < 3 && !bag.isEmpty(); i++) {
                have(bag.remove(0));
            }
            for (int number = 0; number < people.size(); number++) {
                Person one = people.get(number);
                if (day % every(one.kind, one.figure) != 0 || !there(one.friend) || one.friend == number) {
                    continue;
                }
                List<Integer> open = new ArrayList<>(one.knows);
                open.removeAll(one.written);
                if (one.kind.equals("SPY") || one.kind.equals("DESERTER")) {
                    Collections.reverse(open);
                }
                List<Integer> picked = open.subList(0, Math.min(picks(one.kind), open.size()));
                if (!picked.isEmpty() && bag.size() < 24) {
                    int lead = inkWriters.contains(number) ? 0 : lead(one.kind, one.figure, day);
                    bag.add(new Letter(number, one.friend, lead, press(one.kind, one.figure), new TreeSet<>(picked)));
                    one.written.addAll(picked);
                }
            }
        }

        State go(int n) {
            for (int i = 0; i < n; i++) {
                aDay();
            }
            return this;
        }

        int when(int number, int secret) {
            for (int behind = 0; behind <= 60; behind++) {
                if (known(number).contains(secret)) {
                    return behind;
                }
                aDay();
            }
            return -9;
        }
    }

    State now = new State();
    State image;
    final Deque<State> past = new ArrayDeque<>();
    final StringBuilder letters = new StringBuilder();
    final List<Integer> row = new ArrayList<>();
    final int[] refusals = new int[7];

    State mind() {
        return new State(now);
    }

    private int no(int number) {
        refusals[-number]++;
        return number;
    }

    private boolean nobody(int person) {
        return !now.there(person);
    }

    private boolean nobodyNorShe(int person) {
        return person != -1 && nobody(person);
    }

    private static int bits(int below, IntPredicate fits) {
        int bits = 0;
        for (int i = 0; i < below; i++) {
            if (fits.test(i)) {
                bits |= 1 << i;
            }
        }
        return bits;
    }

    private void change(Runnable what) {
        past.addLast(mind());
        if (past.size() > 8) {
            past.removeFirst();
        }
        what.run();
    }

    int feed(int letter) {
        if (letter < 0) return no(-4);
        if (letter > 255 || letters.length() == 96) return no(-6);
        letters.append((char) letter);
        return letters.length();
    }

    private static final Pattern STATEMENT = Pattern.compile("[pf][0-9]{2};|k[0-9]{3};|[sxrd][0-9]{2};");

    int post() {
        String text = letters.toString();
        letters.setLength(0);
        Matcher whole = Pattern.compile("(?:" + STATEMENT.pattern() + ")+").matcher(text);
        if (!whole.matches()) {
            return -1000 - firstWrong(text);
        }
        State then = mind();
        Matcher each = STATEMENT.matcher(text);
        int statements = 0;
        while (each.find()) {
            if (!come(then, each.group())) {
                return -2000 - each.start();
            }
            statements++;
        }
        now = then;
        past.clear();
        return statements;
    }

    /** The longest beginning that some post goes on from: a post that hits its end while matching. */
    private static int firstWrong(String text) {
        for (int place = 1; place <= text.length(); place++) {
            Matcher matcher = Pattern.compile("(?:" + STATEMENT.pattern() + ")+").matcher(text.substring(0, place));
            boolean goesOn = matcher.matches() || matcher.hitEnd();
            if (!goesOn) {
                return place - 1;
            }
        }
        return text.length();
    }

    private static boolean come(State s, String statement) {
        int first = statement.charAt(1) - '0';
        int second = statement.charAt(2) - '0';
        int number = 10 * first + second;
        switch (statement.charAt(0)) {
            case 'p':
                return first <= 7 && s.people.size() < 6 && s.people.add(newcomer(s, first, second));
            case 'f':
                if (!s.there(first) || second > 5) return false;
                s.people.get(first).friend = second;
                return true;
            case 'k':
                int secret = Integer.parseInt(statement.substring(2, 4));
                if (!s.there(first) || secret > 39) return false;
                s.people.get(first).knows.add(secret);
                return true;
            case 's':
                if (number > 39) return false;
                s.she.add(number);
                return true;
            case 'x':
                if (number > 39) return false;
                if (!s.forbidden.remove(number)) s.forbidden.add(number);
                return true;
            case 'r':
                if (number > 18) return false;
                s.rubber = number;
                return true;
            default:
                if (number < 1 || number > 60 || s.day + number > 999) return false;
                s.go(number);
                return true;
        }
    }

    private static Person newcomer(State s, int kind, int figure) {
        int number = s.people.size();
        return new Person(KINDS.get(kind), figure, number == 5 ? 0 : number + 1);
    }

    int person(int person, int what) {
        if (nobody(person)) return no(-1);
        if (what < 0 || what > 8) return no(-2);
        Person one = now.people.get(person);
        return new int[] {KINDS.indexOf(one.kind), one.figure, one.friend, one.knows.size(), one.written.size(),
            lead(one.kind, one.figure, now.day + 1), press(one.kind, one.figure), every(one.kind, one.figure),
            picks(one.kind)}[what];
    }

    int knows(int person, int secret) {
        if (nobodyNorShe(person)) return no(-1);
        if (secret < 0) return no(-4);
        if (secret > 39) return no(-6);
        return now.known(person).contains(secret) ? 1 : 0;
    }

    int above(int person, int secret) {
        if (nobodyNorShe(person)) return no(-1);
        if (secret < 0) return no(-4);
        if (secret > 39) return no(-6);
        SortedSet<Integer> tail = now.known(person).tailSet(secret);
        return tail.isEmpty() ? -9 : tail.first();
    }

    int letter(int place, int what) {
        if (place < 0 || place >= now.bag.size()) return no(-1);
        if (what < 0 || what > 6) return no(-2);
        Letter one = now.bag.get(place);
        return new int[] {one.from(), one.to(), one.lead(), one.press(), one.clauses().size(), one.clauses().first(),
            one.clauses().last()}[what];
    }

    int comes(int kind, int figure) {
        if (kind < 0 || kind > 7) return no(-2);
        if (figure < 0) return no(-4);
        if (figure > 9 || now.people.size() == 6) return no(-6);
        now.people.add(newcomer(now, kind, figure));
        past.clear();
        return now.people.size() - 1;
    }

    int friend(int person, int friend) {
        if (nobody(person)) return no(-1);
        if (friend < 0) return no(-4);
        if (friend > 5) return no(-6);
        int old = now.people.get(person).friend;
        change(() -> now.people.get(person).friend = friend);
        return old;
    }

    int tells(int person, int secret) {
        if (nobodyNorShe(person)) return no(-1);
        if (secret < 0) return no(-4);
        if (secret > 39) return no(-6);
        boolean was = now.known(person).contains(secret);
        change(() -> now.known(person).add(secret));
        return was ? 0 : 1;
    }

    int forbids(int secret) {
        if (secret < 0) return no(-4);
        if (secret > 39) return no(-6);
        boolean was = now.forbidden.contains(secret);
        change(() -> {
            if (was) now.forbidden.remove(secret); else now.forbidden.add(secret);
        });
        return was ? 0 : 1;
    }

    int rubber(int v) {
        if (v < 0) return no(-4);
        if (v > 18) return no(-6);
        int old = now.rubber;
        change(() -> now.rubber = v);
        return old;
    }

    int recalls(int person) {
        if (nobody(person)) return no(-1);
        int before = now.bag.size();
        change(() -> now.bag.removeIf(letter -> letter.from() == person));
        return before - now.bag.size();
    }

    int days(int n) {
        if (n < 1) return no(-4);
        if (n > 60 || now.day + n > 999) return no(-6);
        change(() -> now.go(n));
        return now.she.size();
    }

    int back() {
        if (past.isEmpty()) return no(-3);
        now = past.removeLast();
        return past.size();
    }

    int knownIn(int person, int n) {
        if (nobodyNorShe(person)) return no(-1);
        if (n < 0) return no(-4);
        if (n > 60) return no(-6);
        return mind().go(n).known(person).size();
    }

    int then(int n, int what) {
        if (n < 0) return no(-4);
        if (n > 60) return no(-6);
        if (what < 0 || what > 3) return no(-2);
        State then = mind().go(n);
        return new int[] {then.bag.size(), then.drawer, then.rubbed, then.together()}[what];
    }

    int when(int person, int secret) {
        if (nobodyNorShe(person)) return no(-1);
        if (secret < 0) return no(-4);
        if (secret > 39) return no(-6);
        return mind().when(person, secret);
    }

    int first(int secret) {
        if (secret < 0) return no(-4);
        if (secret > 39) return no(-6);
        int best = -9;
        int least = 61;
        for (int one = 0; one < now.people.size(); one++) {
            int when = mind().when(one, secret);
            if (when > 0 && when < least) {
                least = when;
                best = one;
            }
        }
        return best;
    }

    int letHer(int person, int n, int what) {
        if (nobody(person)) return no(-1);
        if (n < 0) return no(-4);
        if (n > 30) return no(-6);
        if (what < 0 || what > 1) return no(-2);
        int most = mind().go(n).known(person).size();
        int best = -9;
        for (int secret = 0; secret < 40; secret++) {
            State then = mind();
            then.she.add(secret);
            int many = then.go(n).known(person).size();
            if (many > most) {
                most = many;
                best = secret;
            }
        }
        return best == -9 ? -9 : what == 0 ? best : most;
    }

    int rubberFor(int person, int secret, int n) {
        if (nobody(person)) return no(-1);
        if (secret < 0 || n < 0) return no(-4);
        if (secret > 39 || n > 60) return no(-6);
        for (int v = 0; v <= 18; v++) {
            State then = mind();
            then.rubber = v;
            if (!then.go(n).known(person).contains(secret)) return v;
        }
        return -9;
    }

    private State byInk(int bits, int n) {
        State then = mind();
        for (int one = 0; one < 6; one++) {
            if ((bits >> one & 1) == 1) then.inkWriters.add(one);
        }
        return then.go(n);
    }

    int ink(int secret, int n) {
        if (secret < 0 || n < 0) return no(-4);
        if (secret > 39 || n > 30) return no(-6);
        int best = -9;
        for (int bits = 0; bits < 1 << now.people.size(); bits++) {
            if (!byInk(bits, n).she.contains(secret)
                    && (best == -9 || Integer.bitCount(bits) < Integer.bitCount(best))) {
                best = bits;
            }
        }
        return best;
    }

    int friendFor(int person, int told, int secret, int what) {
        if (nobody(person) || nobody(told)) return no(-1);
        if (secret < 0) return no(-4);
        if (secret > 39) return no(-6);
        if (what < 0 || what > 1) return no(-2);
        int best = -9;
        int least = -9;
        for (int friend = 0; friend < now.people.size(); friend++) {
            State then = mind();
            then.people.get(person).friend = friend;
            int when = then.when(told, secret);
            if (friend != person && when != -9 && (least == -9 || when < least)) {
                least = when;
                best = friend;
            }
        }
        return what == 0 ? best : least;
    }

    int swap(int n) {
        if (n < 0) return no(-4);
        if (n > 30) return no(-6);
        int most = mind().go(n).together();
        int best = -9;
        for (int pair = 0; pair < 60; pair++) {
            int lesser = pair / 10;
            int greater = pair % 10;
            if (lesser >= greater || nobody(greater)) continue;
            State then = mind();
            Person one = then.people.get(lesser);
            Person other = then.people.get(greater);
            Person kept = new Person(one);
            one.kind = other.kind;
            one.figure = other.figure;
            other.kind = kept.kind;
            other.figure = kept.figure;
            int many = then.go(n).together();
            if (many > most) {
                most = many;
                best = pair;
            }
        }
        return best;
    }

    int shade(int n) {
        if (n < 0) return 1000000000 - no(-4);
        if (n > 60) return 1000000000 - no(-6);
        State purple = mind();
        purple.purple = true;
        return mind().go(n).she.size() - purple.go(n).she.size();
    }

    private boolean leadsByRow(String kind, int figure) {
        for (int i = 0; i < row.size(); i++) {
            if (row.get(i) != lead(kind, figure, now.day + i + 1)) return false;
        }
        return true;
    }

    int whatKind(int person, int what) {
        if (nobody(person)) return no(-1);
        if (what < 0 || what > 1) return no(-2);
        Person one = now.people.get(person);
        return what == 0 ? bits(8, kind -> leadsByRow(KINDS.get(kind), one.figure))
                : bits(10, figure -> leadsByRow(one.kind, figure));
    }

    int toWhom(int person, int told) {
        if (nobody(person) || nobody(told)) return no(-1);
        return bits(6, friend -> {
            for (int i = 0; i < row.size(); i++) {
                State then = mind();
                then.people.get(told).friend = friend;
                if (then.go(i).known(person).size() != row.get(i)) return false;
            }
            return true;
        });
    }

    private int gain(int person, State then) {
        int friend = now.people.get(person).friend;
        Set<Integer> read = new TreeSet<>(now.known(person));
        read.retainAll(then.she);
        return (now.there(friend) ? then.known(friend).size() : 0) - read.size();
    }

    int two(int one, int other, int n) {
        if (nobody(one) || nobody(other) || one == other) return no(-1);
        if (n < 1) return no(-4);
        if (n > 30) return no(-6);
        for (int a = 0; a < 2; a++) {
            for (int b = 0; b < 2; b++) {
                State then = byInk(a << one | b << other, n);
                State byOne = byInk(1 - a << one | b << other, n);
                State byOther = byInk(a << one | 1 - b << other, n);
                if (gain(one, byOne) <= gain(one, then) && gain(other, byOther) <= gain(other, then)) {
                    return 10 * a + b;
                }
            }
        }
        return -9;
    }

    private static long part(BigInteger above, BigInteger below, int part) {
        if (above.signum() == 0) return part;
        BigInteger shared = above.gcd(below);
        return (part == 0 ? above : below).divide(shared).longValueExact();
    }

    private static long ways(State s, int person, int secret, int n, int t) {
        if (n == 0) return s.known(person).contains(secret) ? 1 : 0;
        State damp = new State(s);
        damp.damp = true;
        return ways(damp.go(1), person, secret, n - 1, t) + (t - 1) * ways(new State(s).go(1), person, secret, n - 1, t);
    }

    long damp(int person, int secret, int n, int t, int part) {
        long base = 4000000000000000000L;
        if (nobody(person)) return base - no(-1);
        if (secret < 0 || n < 0 || t < 2) return base - no(-4);
        if (secret > 39 || n > 7 || t > 20) return base - no(-6);
        if (part < 0 || part > 1) return base - no(-2);
        return part(BigInteger.valueOf(ways(mind(), person, secret, n, t)), BigInteger.valueOf(t).pow(n), part);
    }

    int reach(int person, int what) {
        if (nobody(person)) return no(-1);
        if (what < 0 || what > 1) return no(-2);
        List<Integer> way = new ArrayList<>();
        int at = person;
        while (now.there(at) && !way.contains(at)) {
            way.add(at);
            at = now.people.get(at).friend;
        }
        if (what == 0) return bits(6, way::contains);
        boolean ends = !now.there(at) || now.people.get(at).friend == at;
        return ends ? -9 : way.size() - way.indexOf(at);
    }

    int common(int one, int other, int what) {
        if (nobody(one) || nobody(other) || one == other) return no(-1);
        if (what < 0 || what > 2) return no(-2);
        Set<Integer> set = new TreeSet<>(now.known(one));
        if (what == 0) set.retainAll(now.known(other));
        if (what == 1) set.addAll(now.known(other));
        if (what == 2) set.removeAll(now.known(other));
        return set.size();
    }

    int rarest(int what) {
        if (what < 0 || what > 2) return no(-2);
        int best = -9;
        int fewest = 0;
        int unknown = 0;
        for (int secret = 0; secret < 40; secret++) {
            int asked = secret;
            int many = (int) now.people.stream().filter(one -> one.knows.contains(asked)).count();
            if (many == 0) unknown++;
            if (many > 0 && (fewest == 0 || many < fewest)) {
                fewest = many;
                best = secret;
            }
        }
        return new int[] {best, fewest, unknown}[what];
    }

    long share(int part) {
        if (part < 0 || part > 1) return 4000000000000000000L - no(-2);
        Set<Integer> any = new TreeSet<>(now.she);
        now.people.forEach(one -> any.addAll(one.knows));
        return part(BigInteger.valueOf(now.she.size()), BigInteger.valueOf(any.size()), part);
    }

    int lamp(int place) {
        if (place < 0 || place >= now.bag.size()) return no(-1);
        int behind = 0;
        for (int left = place; left >= 0; left -= 3) behind++;
        return behind;
    }

    int bag(int what) {
        if (what < 0 || what > 2) return no(-2);
        if (what == 0) {
            State then = mind();
            return (int) now.bag.stream().filter(then::have).count();
        }
        if (what == 1) return still();
        int best = -9;
        long most = 0;
        for (int one = 0; one < now.people.size(); one++) {
            int asked = one;
            long many = now.bag.stream().filter(letter -> letter.from() == asked).count();
            if (many > most) {
                most = many;
                best = one;
            }
        }
        return best;
    }

    private int still() {
        StringBuilder days = new StringBuilder();
        State then = mind();
        for (int i = 0; i < 60; i++) {
            List<Set<Integer>> before = new ArrayList<>();
            for (int one = -1; one < then.people.size(); one++) before.add(new TreeSet<>(then.known(one)));
            then.aDay();
            boolean same = true;
            for (int one = -1; one < then.people.size(); one++) same &= before.get(one + 1).equals(then.known(one));
            days.append(same ? '.' : '!');
        }
        return Arrays.stream(days.toString().split("!")).mapToInt(String::length).max().orElse(0);
    }

    int kinds(int kind) {
        if (kind < 0 || kind > 7) return no(-2);
        return (int) now.people.stream().filter(one -> one.kind.equals(KINDS.get(kind))).count();
    }

    int row(int v) {
        if (v < 0) return no(-4);
        if (v > 99 || row.size() == 12) return no(-6);
        row.add(v);
        return row.size();
    }

    int judge() {
        List<Integer> told = new ArrayList<>(row);
        row.clear();
        for (int i = 0; i < told.size(); i++) {
            if (!now.there(i) || now.known(i).size() != told.get(i)) return i;
        }
        return -9;
    }

    int clear() {
        int had = row.size();
        row.clear();
        return had;
    }

    private int seed;

    private int draw(int below) {
        seed = (int) (seed * 1103515245L + 12345L);
        long unsigned = seed < 0 ? seed + 2147483648L : seed;
        return (int) (unsigned / 65536 % below);
    }

    int lots(int n, int z, int what) {
        if (n < 1) return no(-4);
        if (n > 20) return no(-6);
        if (what < 0 || what > 1) return no(-2);
        seed = z;
        int together = 0;
        for (int game = 0; game < n; game++) {
            State then = mind();
            for (int i = 0; i < 10 && !now.people.isEmpty(); i++) {
                Person one = then.people.get(draw(now.people.size()));
                one.knows.add(draw(40));
            }
            then.go(12);
            together += what == 0 ? then.she.size() - now.she.size() : then.drawer - now.drawer;
        }
        return together;
    }

    int image() {
        image = mind();
        return now.day;
    }

    int restore() {
        if (image == null) return no(-3);
        now = new State(image);
        past.clear();
        return now.day;
    }

    int count(int what) {
        int[] all = {now.people.size(), now.day, now.rubber, now.drawer, now.rubbed, now.bag.size(), now.she.size(),
            now.forbidden.size(), letters.length(), row.size(), past.size(), refusals[1], refusals[2], refusals[3],
            refusals[4], refusals[5], refusals[6]};
        return what >= 0 && what < all.length ? all[what] : -9;
    }
}
