import java.util.ArrayList;
import java.util.List;
import java.util.function.Consumer;
import java.util.function.Supplier;

/** All that calls show of an object, seen in several ways: now, later, taken back, restored, told on, judged. */
final class Sight {
    private final List<Long> seen = new ArrayList<>();

    private Sight() {
    }

    /** Two people, one letter in the bag, an image, four changes to take back, a row that is so, letters begun. */
    static MayReadPencil usedOne() {
        MayReadPencil x = Due.with("p10;p25;f10;k005;k006;k106;k107;x06;s09;r07;d02;");
        x.image();
        x.tells(0, 11);
        x.friend(0, 1);
        x.days(1);
        x.rubber(8);
        x.row(x.person(0, 3));
        x.row(x.person(1, 3));
        x.feed('s');
        x.feed('3');
        return x;
    }

    /** Whether an object looks in every way like another on which one call more was made; refusals are not looked at. */
    static boolean isSame(Supplier<MayReadPencil> made, Consumer<MayReadPencil> call) {
        for (int way = 0; way < 6; way++) {
            MayReadPencil one = made.get();
            MayReadPencil other = made.get();
            call.accept(other);
            if (!look(one, way).equals(look(other, way))) {
                return false;
            }
        }
        return true;
    }

    private static List<Long> look(MayReadPencil x, int way) {
        Sight sight = new Sight();
        switch (way) {
            case 0 -> sight.all(x);
            case 1 -> {
                sight.see(x.days(12));
                sight.all(x);
            }
            case 2 -> sight.backwards(x);
            case 3 -> {
                sight.see(x.restore());
                sight.all(x);
            }
            case 4 -> {
                sight.see(x.feed('9'));
                sight.see(x.feed(';'));
                sight.see(x.post());
                sight.all(x);
            }
            default -> {
                sight.see(x.judge());
                sight.see(x.count(9));
            }
        }
        return sight.seen;
    }

    private void see(long answer) {
        seen.add(answer);
    }

    private void all(MayReadPencil x) {
        for (int what = 0; what <= 10; what++) {
            see(x.count(what));
        }
        for (int what = 0; what <= 3; what++) {
            see(x.then(12, what));
        }
        see(x.knownIn(-1, 12));
        for (int one = -1; one < x.count(0); one++) {
            for (int what = 0; what <= 8; what++) {
                see(x.person(one, what));
            }
            for (int secret = x.above(one, 0); secret >= 0; secret = secret < 39 ? x.above(one, secret + 1) : -9) {
                see(secret);
            }
        }
        for (int place = 0; place < x.count(5); place++) {
            for (int what = 0; what <= 6; what++) {
                see(x.letter(place, what));
            }
        }
        for (int secret = 0; secret < 40; secret++) {
            see(x.forbids(secret));
        }
    }

    private void backwards(MayReadPencil x) {
        int left = x.back();
        for (int i = 0; i < 9; i++) {
            see(left);
            see(x.count(1));
            see(x.count(2));
            see(x.count(5));
            see(x.count(6));
            see(x.count(7));
            see(x.then(3, 3));
            see(x.person(0, 2));
            see(x.person(0, 3));
            see(x.person(0, 4));
            left = x.back();
        }
    }
}
