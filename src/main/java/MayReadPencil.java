public final class MayReadPencil {
    private static final int MOST_PEOPLE = 6;
    private static final int MOST_LETTERS = 24;
    private static final int UNDER_LAMP = 3;
    private static final int SECRETS = 40;
    private static final int GREATEST_SECRET = SECRETS - 1;
    private static final int GREATEST_FRIEND = 5;
    private static final int GREATEST_FIGURE = 9;
    private static final int GREATEST_RUBBER = 18;
    private static final int GREATEST_DAY = 999;
    private static final int DAYS_AT_ONCE = 60;
    private static final int DAYS_AHEAD = 60;
    private static final int FEWER_DAYS_AHEAD = 30;
    private static final int DAMP_DAYS = 7;
    private static final int GREATEST_ODDS = 20;
    private static final int MOST_GAMES = 20;
    private static final int ROW_LENGTH = 12;
    private static final int GREATEST_IN_ROW = 99;

    private static final int NONE = -9;
    private static final int SHE = -1;

    private static final int NOBODY = -1;
    private static final int OTHER = -2;
    private static final int STATE = -3;
    private static final int BELOW = -4;
    private static final int ROOM = -6;
    private static final int SHADE_REFUSED = 1000000000;
    private static final long FRACTION_REFUSED = 4000000000000000000L;

    private final Village now;
    private final Foresight foresight;
    private final Past past = new Past();
    private final Post spelt = new Post();
    private final int[] rowNumbers = new int[ROW_LENGTH];
    private final int[] refusals = new int[6];
    private int inRow;
    private Village picture;

    public MayReadPencil() {
        Village village = new Village();
        now = village;
        foresight = new Foresight(village);
    }

    public int feed(int letter) {
        int no = whyNot(false, letter < 0, letter > 255 || spelt.isFull(), false);
        return no != 0 ? refuse(no) : spelt.take(letter);
    }

    public int post() {
        int answer = spelt.readInto(foresight.asItIs());
        if (answer >= 0) {
            now.becomeLike(foresight.asLeft());
            past.forgetAll();
        }
        spelt.forget();
        return answer;
    }

    public int person(int person, int what) {
        int no = whyNot(!isThere(person), false, false, what < 0 || what > 8);
        return no != 0 ? refuse(no) : now.ofPerson(person, what);
    }

    public int knows(int person, int secret) {
        int no = whyNot(!isThereOrShe(person), secret < 0, secret > GREATEST_SECRET, false);
        if (no != 0) {
            return refuse(no);
        }
        return now.hasLearnt(person, secret) ? 1 : 0;
    }

    public int above(int person, int secret) {
        int no = whyNot(!isThereOrShe(person), secret < 0, secret > GREATEST_SECRET, false);
        return no != 0 ? refuse(no) : Secrets.leastFrom(now.knownBy(person), secret);
    }

    public int letter(int place, int what) {
        int no = whyNot(!isInBag(place), false, false, what < 0 || what > 6);
        return no != 0 ? refuse(no) : now.bag.ofLetter(place, what);
    }

    public int comes(int kind, int figure) {
        if (!Kind.isOne(kind)) {
            return refuse(OTHER);
        }
        int no = whyNot(false, figure < 0, figure > GREATEST_FIGURE || now.people >= MOST_PEOPLE, false);
        if (no != 0) {
            return refuse(no);
        }
        past.forgetAll();
        return now.letCome(kind, figure);
    }

    public int friend(int person, int friend) {
        int no = whyNot(!isThere(person), friend < 0, friend > GREATEST_FRIEND, false);
        if (no != 0) {
            return refuse(no);
        }
        past.keep(now);
        int old = now.friends[person];
        now.friends[person] = friend;
        return old;
    }

    public int tells(int person, int secret) {
        int no = whyNot(!isThereOrShe(person), secret < 0, secret > GREATEST_SECRET, false);
        if (no != 0) {
            return refuse(no);
        }
        past.keep(now);
        boolean isNew = !now.hasLearnt(person, secret);
        now.learn(person, Secrets.only(secret));
        return isNew ? 1 : 0;
    }

    public int forbids(int secret) {
        int no = whyNot(false, secret < 0, secret > GREATEST_SECRET, false);
        if (no != 0) {
            return refuse(no);
        }
        past.keep(now);
        now.forbidden ^= Secrets.only(secret);
        return Secrets.isAmong(now.forbidden, secret) ? 1 : 0;
    }

    public int rubber(int v) {
        int no = whyNot(false, v < 0, v > GREATEST_RUBBER, false);
        if (no != 0) {
            return refuse(no);
        }
        past.keep(now);
        int old = now.rubberNow;
        now.rubberNow = v;
        return old;
    }

    public int recalls(int person) {
        if (!isThere(person)) {
            return refuse(NOBODY);
        }
        past.keep(now);
        return now.bag.dropFrom(person);
    }

    public int days(int n) {
        int no = whyNot(false, n < 1, n > DAYS_AT_ONCE || now.dayNow + n > GREATEST_DAY, false);
        if (no != 0) {
            return refuse(no);
        }
        past.keep(now);
        now.passDays(n);
        return Long.bitCount(now.sheKnows);
    }

    public int back() {
        if (past.kept == 0) {
            return refuse(STATE);
        }
        past.takeBack(now);
        return past.kept;
    }

    public int knownIn(int person, int n) {
        int no = whyNot(!isThereOrShe(person), n < 0, n > DAYS_AHEAD, false);
        return no != 0 ? refuse(no) : Long.bitCount(foresight.daysOn(n).knownBy(person));
    }

    public int then(int n, int what) {
        int no = whyNot(false, n < 0, n > DAYS_AHEAD, what < 0 || what > 3);
        return no != 0 ? refuse(no) : foresight.daysOn(n).inAll(what);
    }

    public int when(int person, int secret) {
        int no = whyNot(!isThereOrShe(person), secret < 0, secret > GREATEST_SECRET, false);
        return no != 0 ? refuse(no) : foresight.asItIs().daysUntil(person, secret);
    }

    public int first(int secret) {
        int no = whyNot(false, secret < 0, secret > GREATEST_SECRET, false);
        return no != 0 ? refuse(no) : foresight.nextToLearn(secret);
    }

    public int letHer(int person, int n, int what) {
        int no = whyNot(!isThere(person), n < 0, n > FEWER_DAYS_AHEAD, !isChoice(what));
        return no != 0 ? refuse(no) : foresight.secretToLetHer(person, n, what);
    }

    public int rubberFor(int person, int secret, int n) {
        int no = whyNot(!isThere(person), secret < 0 || n < 0, secret > GREATEST_SECRET || n > DAYS_AHEAD, false);
        return no != 0 ? refuse(no) : foresight.rubberThatDoes(person, secret, n);
    }

    public int ink(int secret, int n) {
        int no = whyNot(false, secret < 0 || n < 0, secret > GREATEST_SECRET || n > FEWER_DAYS_AHEAD, false);
        return no != 0 ? refuse(no) : foresight.fewestInInk(secret, n);
    }

    public int friendFor(int person, int told, int secret, int what) {
        int no = whyNot(!isThere(person) || !isThere(told), secret < 0, secret > GREATEST_SECRET, !isChoice(what));
        return no != 0 ? refuse(no) : foresight.bestFriend(person, told, secret, what);
    }

    public int swap(int n) {
        int no = whyNot(false, n < 0, n > FEWER_DAYS_AHEAD, false);
        return no != 0 ? refuse(no) : foresight.bestSwap(n);
    }

    public int shade(int n) {
        int no = whyNot(false, n < 0, n > DAYS_AHEAD, false);
        return no != 0 ? SHADE_REFUSED - refuse(no) : foresight.purpleLoss(n);
    }

    public int whatKind(int person, int what) {
        int no = whyNot(!isThere(person), false, false, !isChoice(what));
        if (no != 0) {
            return refuse(no);
        }
        return what == 0 ? kindsByRow(now.figures[person]) : figuresByRow(now.kindsOf[person]);
    }

    public int toWhom(int person, int told) {
        int no = whyNot(!isThere(person) || !isThere(told), false, false, false);
        return no != 0 ? refuse(no) : foresight.friendsByRow(person, told, rowNumbers, inRow);
    }

    public int two(int one, int other, int n) {
        int no = whyNot(!areTwo(one, other), n < 1, n > FEWER_DAYS_AHEAD, false);
        return no != 0 ? refuse(no) : foresight.settledPair(one, other, n);
    }

    public long damp(int person, int secret, int n, int t, int part) {
        boolean below = secret < 0 || n < 0 || t < 2;
        boolean room = secret > GREATEST_SECRET || n > DAMP_DAYS || t > GREATEST_ODDS;
        int no = whyNot(!isThere(person), below, room, !isChoice(part));
        if (no != 0) {
            return FRACTION_REFUSED - refuse(no);
        }
        return Fraction.partOf(foresight.waysToLearn(person, secret, n, t), Fraction.power(t, n), part);
    }

    public int reach(int person, int what) {
        int no = whyNot(!isThere(person), false, false, !isChoice(what));
        if (no != 0) {
            return refuse(no);
        }
        return what == 0 ? now.reachedFrom(person) : now.ringFrom(person);
    }

    public int common(int one, int other, int what) {
        int no = whyNot(!areTwo(one, other), false, false, what < 0 || what > 2);
        if (no != 0) {
            return refuse(no);
        }
        long first = now.knownBy(one);
        long second = now.knownBy(other);
        if (what == 0) {
            return Long.bitCount(first & second);
        }
        return Long.bitCount(what == 1 ? first | second : first & ~second);
    }

    public int rarest(int what) {
        if (what < 0 || what > 2) {
            return refuse(OTHER);
        }
        int secret = now.rarestSecret();
        if (what == 0) {
            return secret;
        }
        return what == 1 ? now.howManyKnow(secret) : SECRETS - Long.bitCount(now.knownByAny());
    }

    public long share(int part) {
        if (!isChoice(part)) {
            return FRACTION_REFUSED - refuse(OTHER);
        }
        int hers = Long.bitCount(now.sheKnows);
        int anyones = Long.bitCount(now.sheKnows | now.knownByAny());
        return Fraction.partOf(hers, anyones, part);
    }

    public int lamp(int place) {
        return isInBag(place) ? place / UNDER_LAMP + 1 : refuse(NOBODY);
    }

    public int bag(int what) {
        if (what < 0 || what > 2) {
            return refuse(OTHER);
        }
        if (what == 0) {
            return foresight.asItIs().haveWholeBag();
        }
        return what == 1 ? foresight.longestStill() : now.bag.busiest();
    }

    public int kinds(int kind) {
        return Kind.isOne(kind) ? now.howManyOf(kind) : refuse(OTHER);
    }

    public int row(int v) {
        int no = whyNot(false, v < 0, v > GREATEST_IN_ROW || inRow >= ROW_LENGTH, false);
        if (no != 0) {
            return refuse(no);
        }
        rowNumbers[inRow] = v;
        inRow++;
        return inRow;
    }

    public int judge() {
        int wrong = NONE;
        for (int place = 0; place < inRow && wrong == NONE; place++) {
            if (!isThere(place) || Long.bitCount(now.knownBy(place)) != rowNumbers[place]) {
                wrong = place;
            }
        }
        inRow = 0;
        return wrong;
    }

    public int clear() {
        int had = inRow;
        inRow = 0;
        return had;
    }

    public int lots(int n, int z, int what) {
        int no = whyNot(false, n < 1, n > MOST_GAMES, !isChoice(what));
        return no != 0 ? refuse(no) : foresight.playGames(n, z, what);
    }

    public int image() {
        if (picture == null) {
            picture = new Village();
        }
        picture.becomeLike(now);
        return now.dayNow;
    }

    public int restore() {
        if (picture == null) {
            return refuse(STATE);
        }
        now.becomeLike(picture);
        past.forgetAll();
        return now.dayNow;
    }

    public int count(int what) {
        switch (what) {
            case 0: return now.people;
            case 1: return now.dayNow;
            case 2: return now.rubberNow;
            case 3: return now.drawer;
            case 4: return now.rubbed;
            case 5: return now.bag.letters;
            case 6: return Long.bitCount(now.sheKnows);
            case 7: return Long.bitCount(now.forbidden);
            case 8: return spelt.length;
            case 9: return inRow;
            case 10: return past.kept;
            default: return what >= 11 && what <= 16 ? refusals[what - 11] : NONE;
        }
    }

    private int refuse(int number) {
        int place = -1 - number;
        if (place >= 0 && place < refusals.length) {
            refusals[place]++;
        }
        return number;
    }

    /** In the order in which nearly every call tells its refusals; 0 is none. */
    private static int whyNot(boolean nobody, boolean below, boolean room, boolean other) {
        if (nobody) {
            return NOBODY;
        }
        if (below) {
            return BELOW;
        }
        if (room) {
            return ROOM;
        }
        return other ? OTHER : 0;
    }

    private static boolean isChoice(int what) {
        return what == 0 || what == 1;
    }

    private boolean isThere(int person) {
        return now.hasPerson(person);
    }

    private boolean isThereOrShe(int person) {
        return person == SHE || isThere(person);
    }

    private boolean areTwo(int one, int other) {
        return isThere(one) && isThere(other) && one != other;
    }

    private boolean isInBag(int place) {
        return place >= 0 && place < now.bag.letters;
    }

    private int kindsByRow(int figure) {
        int bits = 0;
        for (int kind = 0; kind < Kind.HOW_MANY; kind++) {
            if (rowTellsLeads(kind, figure)) {
                bits |= 1 << kind;
            }
        }
        return bits;
    }

    private int figuresByRow(int kind) {
        int bits = 0;
        for (int figure = 0; figure <= GREATEST_FIGURE; figure++) {
            if (rowTellsLeads(kind, figure)) {
                bits |= 1 << figure;
            }
        }
        return bits;
    }

    private boolean rowTellsLeads(int kind, int figure) {
        for (int place = 0; place < inRow; place++) {
            if (rowNumbers[place] != Kind.leadOf(kind, figure, now.dayNow + 1 + place)) {
                return false;
            }
        }
        return true;
    }

    /** Sets of secrets, a bit each. */
    private static final class Secrets {
        static long only(int secret) {
            return 1L << secret;
        }

        static boolean isAmong(long secrets, int secret) {
            return (secrets & only(secret)) != 0;
        }

        static int leastFrom(long secrets, int from) {
            for (int secret = from; secret < SECRETS; secret++) {
                if ((secrets & 1L << secret) != 0) {
                    return secret;
                }
            }
            return NONE;
        }

        static int greatest(long secrets) {
            for (int secret = GREATEST_SECRET; secret >= 0; secret--) {
                if ((secrets & 1L << secret) != 0) {
                    return secret;
                }
            }
            return NONE;
        }

        static long firstFew(long secrets, int few, boolean backward) {
            long left = secrets;
            for (int i = 0; i < few && left != 0; i++) {
                left &= backward ? ~only(greatest(left)) : left - 1;
            }
            return secrets & ~left;
        }
    }

    /** Fractions in lowest terms, told by their parts. */
    private static final class Fraction {
        static long power(int base, int times) {
            long product = 1;
            for (int i = 0; i < times; i++) {
                product *= base;
            }
            return product;
        }

        static long partOf(long above, long below, int part) {
            if (above == 0 || below == 0) {
                return part == 0 ? 0 : 1;
            }
            long shared = commonDivisor(above, below);
            long whole = part == 0 ? above : below;
            return shared == 0 ? whole : whole / shared;
        }

        private static long commonDivisor(long one, long other) {
            long greater = one;
            long lesser = other;
            for (int i = 0; i < 1000 && lesser != 0; i++) {
                long rest = greater % lesser;
                greater = lesser;
                lesser = rest;
            }
            return greater;
        }
    }

    /** What each kind of people writes with, how hard, how often and how much. */
    private static final class Kind {
        static final int HOW_MANY = 8;
        static final int WRITER = 0;
        static final int LOVER = 1;
        static final int SOLDIER = 2;
        static final int BANK = 3;
        static final int SPY = 4;
        static final int WIDOW = 5;
        static final int CHILD = 6;
        static final int DESERTER = 7;

        static boolean isOne(int kind) {
            return kind >= 0 && kind < HOW_MANY;
        }

        static int leadOf(int kind, int figure, int day) {
            switch (kind) {
                case WRITER: return day % 2 == 0 ? 0 : figure;
                case LOVER: return loversLead(figure);
                case SOLDIER: return soldiersLead(day);
                case BANK: return banksLead(figure, day);
                case SPY: return day % 2 == 0 ? banksLead(figure, day) : Math.max(5, banksLead(figure, day));
                case WIDOW: return loversLead(figure) + 2;
                case CHILD: return soldiersLead(day) - 1;
                case DESERTER: return 9 - (soldiersLead(day) - 1);
                default: return 0;
            }
        }

        private static int loversLead(int figure) {
            return figure / 2 + 1;
        }

        private static int soldiersLead(int day) {
            int rest = day % 3;
            if (rest == 0) {
                return 4;
            }
            return rest == 1 ? 1 : 7;
        }

        private static int banksLead(int figure, int day) {
            int step = figure + 2;
            return step > 0 && day % step == 0 ? 9 : 0;
        }

        static int pressOf(int kind, int figure) {
            switch (kind) {
                case WRITER: return 2;
                case LOVER: return loversPress(figure);
                case SOLDIER: return 1;
                case BANK: return 5;
                case SPY: return 0;
                case WIDOW: return loversPress(figure) - 3;
                case CHILD:
                case DESERTER: return 5;
                default: return 0;
            }
        }

        private static int loversPress(int figure) {
            return 2 * 2 + figure / 3;
        }

        static int everyOf(int kind, int figure) {
            switch (kind) {
                case WRITER: return 3;
                case LOVER: return 1;
                case SOLDIER: return soldiersEvery(figure);
                case BANK: return 5;
                case SPY: return 3;
                case WIDOW: return 3;
                case CHILD: return soldiersEvery(figure) + 1;
                case DESERTER: return 2 * (soldiersEvery(figure) + 1);
                default: return 1;
            }
        }

        private static int soldiersEvery(int figure) {
            return figure / 2 + 2;
        }

        static int picksOf(int kind) {
            switch (kind) {
                case LOVER:
                case DESERTER: return 3;
                case SOLDIER:
                case SPY:
                case WIDOW:
                case CHILD: return 2;
                default: return 1;
            }
        }

        static boolean isBackward(int kind) {
            return kind == SPY || kind == DESERTER;
        }
    }

    /** The letters as they were posted, the first at place 0. */
    private static final class Bag {
        int letters;
        final int[] froms = new int[MOST_LETTERS];
        final int[] tos = new int[MOST_LETTERS];
        final int[] leads = new int[MOST_LETTERS];
        final int[] presses = new int[MOST_LETTERS];
        final long[] clauses = new long[MOST_LETTERS];

        void holdAs(Bag other) {
            letters = other.letters;
            for (int place = 0; place < letters; place++) {
                put(place, other, place);
            }
        }

        private void put(int place, Bag other, int from) {
            froms[place] = other.froms[from];
            tos[place] = other.tos[from];
            leads[place] = other.leads[from];
            presses[place] = other.presses[from];
            clauses[place] = other.clauses[from];
        }

        boolean isFull() {
            return letters >= MOST_LETTERS;
        }

        void add(int from, int to, int lead, int press, long words) {
            if (isFull()) {
                return;
            }
            froms[letters] = from;
            tos[letters] = to;
            leads[letters] = lead;
            presses[letters] = press;
            clauses[letters] = words;
            letters++;
        }

        void dropFirst(int few) {
            for (int place = few; place < letters; place++) {
                put(place - few, this, place);
            }
            letters = Math.max(0, letters - few);
        }

        int dropFrom(int one) {
            int left = 0;
            for (int place = 0; place < letters; place++) {
                if (froms[place] != one) {
                    put(left, this, place);
                    left++;
                }
            }
            int dropped = letters - left;
            letters = left;
            return dropped;
        }

        int ofLetter(int place, int what) {
            switch (what) {
                case 0: return froms[place];
                case 1: return tos[place];
                case 2: return leads[place];
                case 3: return presses[place];
                case 4: return Long.bitCount(clauses[place]);
                case 5: return Secrets.leastFrom(clauses[place], 0);
                default: return Secrets.greatest(clauses[place]);
            }
        }

        int busiest() {
            int busiest = NONE;
            int most = 0;
            for (int one = 0; one < MOST_PEOPLE; one++) {
                int many = lettersFrom(one);
                if (many > most) {
                    most = many;
                    busiest = one;
                }
            }
            return busiest;
        }

        private int lettersFrom(int one) {
            int many = 0;
            for (int place = 0; place < letters; place++) {
                if (froms[place] == one) {
                    many++;
                }
            }
            return many;
        }
    }

    /** All of part I but letters, row, refusals and image: what is, what was, or what is thought of. */
    private static final class Village {
        static final int MOST_IN_DRAWER = 999;
        static final int MOST_RUBBED = 9999;
        static final int PURPLE = 5;

        int people;
        final int[] kindsOf = new int[MOST_PEOPLE];
        final int[] figures = new int[MOST_PEOPLE];
        final int[] friends = new int[MOST_PEOPLE];
        final long[] known = new long[MOST_PEOPLE];
        final long[] written = new long[MOST_PEOPLE];
        final Bag bag = new Bag();
        long sheKnows;
        long forbidden;
        int rubberNow = 6;
        int drawer;
        int rubbed;
        int dayNow;

        // What only a village thought of ever has: who writes in ink (bits), a damp night, purple as ink.
        int inkWriters;
        boolean isDamp;
        boolean isPurpleInk;

        void becomeLike(Village other) {
            people = other.people;
            System.arraycopy(other.kindsOf, 0, kindsOf, 0, MOST_PEOPLE);
            System.arraycopy(other.figures, 0, figures, 0, MOST_PEOPLE);
            System.arraycopy(other.friends, 0, friends, 0, MOST_PEOPLE);
            System.arraycopy(other.known, 0, known, 0, MOST_PEOPLE);
            System.arraycopy(other.written, 0, written, 0, MOST_PEOPLE);
            bag.holdAs(other.bag);
            sheKnows = other.sheKnows;
            forbidden = other.forbidden;
            rubberNow = other.rubberNow;
            drawer = other.drawer;
            rubbed = other.rubbed;
            dayNow = other.dayNow;
            inkWriters = 0;
            isDamp = false;
            isPurpleInk = false;
        }

        int letCome(int kind, int figure) {
            int number = people;
            if (number >= MOST_PEOPLE) {
                return NONE;
            }
            kindsOf[number] = kind;
            figures[number] = figure;
            friends[number] = number == GREATEST_FRIEND ? 0 : number + 1;
            known[number] = 0;
            written[number] = 0;
            people++;
            return number;
        }

        int ofPerson(int one, int what) {
            int kind = kindsOf[one];
            int figure = figures[one];
            switch (what) {
                case 0: return kind;
                case 1: return figure;
                case 2: return friends[one];
                case 3: return Long.bitCount(known[one]);
                case 4: return Long.bitCount(written[one]);
                case 5: return Kind.leadOf(kind, figure, dayNow + 1);
                case 6: return Kind.pressOf(kind, figure);
                case 7: return Kind.everyOf(kind, figure);
                default: return Kind.picksOf(kind);
            }
        }

        int inAll(int what) {
            switch (what) {
                case 0: return bag.letters;
                case 1: return drawer;
                case 2: return rubbed;
                default: return knownTogether();
            }
        }

        boolean hasPerson(int one) {
            return one >= 0 && one < people;
        }

        private static boolean hasRowFor(int one) {
            return one >= 0 && one < MOST_PEOPLE;
        }

        long knownBy(int one) {
            if (one == SHE) {
                return sheKnows;
            }
            return hasRowFor(one) ? known[one] : 0;
        }

        boolean hasLearnt(int one, int secret) {
            return Secrets.isAmong(knownBy(one), secret);
        }

        void learn(int one, long secrets) {
            if (one == SHE) {
                sheKnows |= secrets;
            } else if (hasRowFor(one)) {
                known[one] |= secrets;
            }
        }

        int knownTogether() {
            int together = 0;
            for (int one = 0; one < people; one++) {
                together += Long.bitCount(known[one]);
            }
            return together;
        }

        int knownInAll() {
            return knownTogether() + Long.bitCount(sheKnows);
        }

        long knownByAny() {
            long any = 0;
            for (int one = 0; one < people; one++) {
                any |= known[one];
            }
            return any;
        }

        int howManyKnow(int secret) {
            int many = 0;
            for (int one = 0; one < people && secret >= 0; one++) {
                if (hasLearnt(one, secret)) {
                    many++;
                }
            }
            return many;
        }

        int rarestSecret() {
            int rarest = NONE;
            int fewest = MOST_PEOPLE + 1;
            for (int secret = 0; secret < SECRETS; secret++) {
                int many = howManyKnow(secret);
                if (many > 0 && many < fewest) {
                    fewest = many;
                    rarest = secret;
                }
            }
            return rarest;
        }

        int howManyOf(int kind) {
            int many = 0;
            for (int one = 0; one < people; one++) {
                if (kindsOf[one] == kind) {
                    many++;
                }
            }
            return many;
        }

        private boolean hasOtherFriend(int one) {
            return hasPerson(friends[one]) && friends[one] != one;
        }

        int reachedFrom(int one) {
            int reached = 1 << one;
            int at = one;
            for (int step = 0; step < MOST_PEOPLE && hasPerson(friends[at]); step++) {
                at = friends[at];
                reached |= 1 << at;
            }
            return reached;
        }

        int ringFrom(int one) {
            int at = one;
            for (int step = 0; step < MOST_PEOPLE; step++) {
                if (!hasOtherFriend(at)) {
                    return NONE;
                }
                at = friends[at];
            }
            // As many steps as there can be people lead into the ring, so all reached from there are in it.
            return Integer.bitCount(reachedFrom(at));
        }

        void passDays(int n) {
            for (int i = 0; i < n; i++) {
                dayNow++;
                haveFirstLetters();
                for (int one = 0; one < people; one++) {
                    writeIfDue(one);
                }
            }
        }

        private void haveFirstLetters() {
            int had = Math.min(UNDER_LAMP, bag.letters);
            for (int place = 0; place < had; place++) {
                haveLetter(place);
            }
            bag.dropFirst(had);
        }

        int haveWholeBag() {
            int spoilt = 0;
            for (int place = 0; place < bag.letters; place++) {
                if (!haveLetter(place)) {
                    spoilt++;
                }
            }
            return spoilt;
        }

        /** Whether it goes on to whom it is to; it stays in the bag. */
        private boolean haveLetter(int place) {
            int to = bag.tos[place];
            int lead = bag.leads[place];
            long words = bag.clauses[place];
            boolean isInk = lead == 0 || isPurpleInk && lead == PURPLE;
            if (!isInk) {
                sheKnows |= words;
                if (!isDamp && lead + bag.presses[place] <= rubberNow) {
                    words = afterRubbing(words, knownBy(to));
                }
            }
            if (words == 0) {
                drawer = Math.min(MOST_IN_DRAWER, drawer + 1);
                return false;
            }
            learn(to, words);
            return true;
        }

        private long afterRubbing(long words, long knownToHim) {
            long gone = words & forbidden;
            rubbed = Math.min(MOST_RUBBED, rubbed + Long.bitCount(gone));
            if (gone != words) {
                return words & ~gone;
            }
            long putIn = sheKnows & ~forbidden & ~knownToHim;
            return putIn & -putIn;
        }

        private void writeIfDue(int one) {
            int kind = kindsOf[one];
            int figure = figures[one];
            int every = Kind.everyOf(kind, figure);
            if (every < 1 || dayNow % every != 0 || !hasOtherFriend(one) || bag.isFull()) {
                return;
            }
            long words = Secrets.firstFew(known[one] & ~written[one], Kind.picksOf(kind), Kind.isBackward(kind));
            if (words == 0) {
                return;
            }
            int lead = (inkWriters & 1 << one) != 0 ? 0 : Kind.leadOf(kind, figure, dayNow);
            bag.add(one, friends[one], lead, Kind.pressOf(kind, figure), words);
            written[one] |= words;
        }

        int daysUntil(int one, int secret) {
            for (int after = 0; after <= DAYS_AHEAD; after++) {
                if (hasLearnt(one, secret)) {
                    return after;
                }
                passDays(1);
            }
            return NONE;
        }

        void exchange(int one, int other) {
            int kind = kindsOf[one];
            int figure = figures[one];
            kindsOf[one] = kindsOf[other];
            figures[one] = figures[other];
            kindsOf[other] = kind;
            figures[other] = figure;
        }
    }

    /** What would be: each answer is tried out on one village kept for that, made like the true one first. */
    private static final class Foresight {
        private final Village now;
        private final Village mind = new Village();
        private final int[] oneHas = new int[4];
        private final int[] otherHas = new int[4];

        Foresight(Village now) {
            this.now = now;
        }

        Village asItIs() {
            mind.becomeLike(now);
            return mind;
        }

        Village asLeft() {
            return mind;
        }

        Village daysOn(int n) {
            asItIs();
            mind.passDays(n);
            return mind;
        }

        int nextToLearn(int secret) {
            asItIs();
            for (int after = 0; after < DAYS_AHEAD; after++) {
                mind.passDays(1);
                for (int one = 0; one < now.people; one++) {
                    if (mind.hasLearnt(one, secret) && !now.hasLearnt(one, secret)) {
                        return one;
                    }
                }
            }
            return NONE;
        }

        int secretToLetHer(int person, int n, int what) {
            int best = NONE;
            int most = Long.bitCount(daysOn(n).knownBy(person));
            for (int secret = 0; secret < SECRETS; secret++) {
                int many = now.hasLearnt(SHE, secret) ? 0 : knownIfSheKnew(person, secret, n);
                if (many > most) {
                    most = many;
                    best = secret;
                }
            }
            return what == 0 || best == NONE ? best : most;
        }

        private int knownIfSheKnew(int person, int secret, int n) {
            asItIs();
            mind.learn(SHE, Secrets.only(secret));
            mind.passDays(n);
            return Long.bitCount(mind.knownBy(person));
        }

        int rubberThatDoes(int person, int secret, int n) {
            for (int v = 0; v <= GREATEST_RUBBER; v++) {
                asItIs();
                mind.rubberNow = v;
                mind.passDays(n);
                if (!mind.hasLearnt(person, secret)) {
                    return v;
                }
            }
            return NONE;
        }

        int fewestInInk(int secret, int n) {
            for (int few = 0; few <= now.people; few++) {
                for (int bits = 0; bits < 1 << now.people; bits++) {
                    if (Integer.bitCount(bits) != few) {
                        continue;
                    }
                    passInInk(bits, n);
                    if (!mind.hasLearnt(SHE, secret)) {
                        return bits;
                    }
                }
            }
            return NONE;
        }

        private void passInInk(int inkWriters, int n) {
            asItIs();
            mind.inkWriters = inkWriters;
            mind.passDays(n);
        }

        int bestFriend(int person, int told, int secret, int what) {
            int best = NONE;
            int fewest = DAYS_AHEAD + 1;
            for (int friend = 0; friend < now.people; friend++) {
                if (friend == person) {
                    continue;
                }
                asItIs();
                mind.friends[person] = friend;
                int after = mind.daysUntil(told, secret);
                if (after != NONE && after < fewest) {
                    fewest = after;
                    best = friend;
                }
            }
            return what == 0 || best == NONE ? best : fewest;
        }

        int bestSwap(int n) {
            int best = NONE;
            int most = daysOn(n).knownTogether();
            for (int one = 0; one < now.people; one++) {
                for (int other = one + 1; other < now.people; other++) {
                    int many = knownIfExchanged(one, other, n);
                    if (many > most) {
                        most = many;
                        best = 10 * one + other;
                    }
                }
            }
            return best;
        }

        private int knownIfExchanged(int one, int other, int n) {
            asItIs();
            mind.exchange(one, other);
            mind.passDays(n);
            return mind.knownTogether();
        }

        int purpleLoss(int n) {
            int asEver = Long.bitCount(daysOn(n).sheKnows);
            asItIs();
            mind.isPurpleInk = true;
            mind.passDays(n);
            return asEver - Long.bitCount(mind.sheKnows);
        }

        int friendsByRow(int person, int told, int[] row, int length) {
            int bits = 0;
            for (int friend = 0; friend <= GREATEST_FRIEND; friend++) {
                asItIs();
                mind.friends[told] = friend;
                if (goesByRow(person, row, length)) {
                    bits |= 1 << friend;
                }
            }
            return bits;
        }

        private boolean goesByRow(int person, int[] row, int length) {
            for (int place = 0; place < length && place < row.length; place++) {
                if (row[place] != Long.bitCount(mind.knownBy(person))) {
                    return false;
                }
                mind.passDays(1);
            }
            return true;
        }

        int settledPair(int one, int other, int n) {
            for (int choices = 0; choices < 4; choices++) {
                passInInk(choices / 2 << one | choices % 2 << other, n);
                oneHas[choices] = gain(one);
                otherHas[choices] = gain(other);
            }
            for (int choices = 0; choices < 4; choices++) {
                int byOneAlone = choices ^ 2;
                int byOtherAlone = choices ^ 1;
                if (oneHas[byOneAlone] <= oneHas[choices] && otherHas[byOtherAlone] <= otherHas[choices]) {
                    return choices / 2 * 10 + choices % 2;
                }
            }
            return NONE;
        }

        private int gain(int one) {
            int friend = now.friends[one];
            int toldHim = now.hasPerson(friend) ? Long.bitCount(mind.knownBy(friend)) : 0;
            return toldHim - Long.bitCount(now.knownBy(one) & mind.sheKnows);
        }

        /** Of the t to the n courses of dry and damp nights, all equally likely, those by which one learns it. */
        long waysToLearn(int person, int secret, int n, int t) {
            long ways = 0;
            for (int dampNights = 0; dampNights < 1 << n; dampNights++) {
                asItIs();
                for (int night = 0; night < n; night++) {
                    mind.isDamp = (dampNights & 1 << night) != 0;
                    mind.passDays(1);
                }
                if (mind.hasLearnt(person, secret)) {
                    ways += Fraction.power(t - 1, n - Integer.bitCount(dampNights));
                }
            }
            return ways;
        }

        int longestStill() {
            int longest = 0;
            int run = 0;
            int before = asItIs().knownInAll();
            for (int i = 0; i < DAYS_AHEAD; i++) {
                mind.passDays(1);
                int after = mind.knownInAll();
                run = after == before ? run + 1 : 0;
                longest = Math.max(longest, run);
                before = after;
            }
            return longest;
        }

        int playGames(int n, int z, int what) {
            int seed = z;
            int together = 0;
            for (int game = 0; game < n; game++) {
                asItIs();
                for (int i = 0; i < 10 && now.people > 0; i++) {
                    seed = nextSeed(seed);
                    int one = drawBelow(now.people, seed);
                    seed = nextSeed(seed);
                    mind.learn(one, Secrets.only(drawBelow(SECRETS, seed)));
                }
                mind.passDays(12);
                together += what == 0
                        ? Long.bitCount(mind.sheKnows) - Long.bitCount(now.sheKnows)
                        : mind.drawer - now.drawer;
            }
            return together;
        }

        private static int nextSeed(int seed) {
            return seed * 1103515245 + 12345;
        }

        private static int drawBelow(int n, int seed) {
            return n > 0 ? (seed & 0x7fffffff) / 65536 % n : 0;
        }
    }

    /** What can be taken back: whole villages, the rows used again in a ring. */
    private static final class Past {
        static final int MOST = 8;

        private final Village[] rows = new Village[MOST];
        private int oldest;
        int kept;

        void keep(Village now) {
            if (kept == MOST) {
                oldest = (oldest + 1) % MOST;
                kept--;
            }
            int place = (oldest + kept) % MOST;
            if (rows[place] == null) {
                rows[place] = new Village();
            }
            rows[place].becomeLike(now);
            kept++;
        }

        void takeBack(Village now) {
            if (kept == 0) {
                return;
            }
            kept--;
            Village before = rows[(oldest + kept) % MOST];
            if (before != null) {
                now.becomeLike(before);
            }
        }

        void forgetAll() {
            kept = 0;
        }
    }

    /** A post told in letters. */
    private static final class Post {
        static final int MOST = 96;
        static final int FAULT_IN_LETTERS = -1000;
        static final int FAULT_IN_STATEMENT = -2000;

        private final int[] text = new int[MOST];
        int length;

        boolean isFull() {
            return length >= MOST;
        }

        int take(int letter) {
            if (!isFull()) {
                text[length] = letter;
                length++;
            }
            return length;
        }

        void forget() {
            length = 0;
        }

        /** The village is as left by all statements only if none has a fault. */
        int readInto(Village village) {
            int wrong = firstWrongLetter();
            if (wrong >= 0) {
                return FAULT_IN_LETTERS - wrong;
            }
            int place = 0;
            int statements = 0;
            while (place < length && statements < MOST) {
                if (!tell(village, place)) {
                    return FAULT_IN_STATEMENT - place;
                }
                place += 1 + lettersBehind(text[place]);
                statements++;
            }
            return statements;
        }

        private int firstWrongLetter() {
            int lacking = 0;
            for (int place = 0; place < length; place++) {
                int letter = text[place];
                if (lacking == 0) {
                    lacking = lettersBehind(letter);
                    if (lacking == 0) {
                        return place;
                    }
                } else {
                    boolean fits = lacking == 1 ? letter == ';' : isDigit(letter);
                    if (!fits) {
                        return place;
                    }
                    lacking--;
                }
            }
            return lacking > 0 || length == 0 ? length : -1;
        }

        /** Of the first letter of a statement; 0 if no statement begins with it. */
        private static int lettersBehind(int letter) {
            switch (letter) {
                case 'k': return 4;
                case 'p':
                case 'f':
                case 's':
                case 'x':
                case 'r':
                case 'd': return 3;
                default: return 0;
            }
        }

        private static boolean isDigit(int letter) {
            return letter >= '0' && letter <= '9';
        }

        private int digit(int place) {
            return place < MOST ? text[place] - '0' : 0;
        }

        private int twoDigits(int place) {
            return 10 * digit(place) + digit(place + 1);
        }

        /** Whether the statement is as it must be; if so, it has come. */
        private boolean tell(Village village, int place) {
            int one = digit(place + 1);
            int number = twoDigits(place + 1);
            switch (text[place]) {
                case 'p': return tellPerson(village, one, digit(place + 2));
                case 'f': return tellFriend(village, one, digit(place + 2));
                case 'k': return village.hasPerson(one) && tellSecret(village, one, twoDigits(place + 2));
                case 's': return tellSecret(village, SHE, number);
                case 'x': return tellForbidden(village, number);
                case 'r': return tellRubber(village, number);
                default:
                    if (!mayPass(village, number)) {
                        return false;
                    }
                    village.passDays(number);
                    return true;
            }
        }

        private static boolean tellPerson(Village village, int kind, int figure) {
            if (!Kind.isOne(kind) || village.people >= MOST_PEOPLE) {
                return false;
            }
            village.letCome(kind, figure);
            return true;
        }

        private static boolean tellFriend(Village village, int one, int friend) {
            if (!village.hasPerson(one) || friend > GREATEST_FRIEND) {
                return false;
            }
            village.friends[one] = friend;
            return true;
        }

        private static boolean tellSecret(Village village, int one, int secret) {
            if (secret > GREATEST_SECRET) {
                return false;
            }
            village.learn(one, Secrets.only(secret));
            return true;
        }

        private static boolean tellForbidden(Village village, int secret) {
            if (secret > GREATEST_SECRET) {
                return false;
            }
            village.forbidden ^= Secrets.only(secret);
            return true;
        }

        private static boolean tellRubber(Village village, int v) {
            if (v > GREATEST_RUBBER) {
                return false;
            }
            village.rubberNow = v;
            return true;
        }

        private static boolean mayPass(Village village, int n) {
            return n >= 1 && n <= DAYS_AT_ONCE && village.dayNow + n <= GREATEST_DAY;
        }
    }
}
