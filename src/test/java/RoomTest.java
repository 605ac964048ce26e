import java.lang.management.ManagementFactory;
import java.util.NoSuchElementException;

/** All calls of a run live in one room: a new object takes little of it, and a call takes nothing. */
public final class RoomTest {
    private static final int ROUNDS = 2000;
    private static final long MOST_OF_AN_OBJECT = 64 * 1024;
    private static final long MOST_OF_A_ROUND = 64;

    private static int sum = 0;

    private static long taken() {
        com.sun.management.ThreadMXBean bean = (com.sun.management.ThreadMXBean) ManagementFactory.getThreadMXBean();
        return bean.getThreadAllocatedBytes(Thread.currentThread().getId());
    }

    public static void main(String[] args) throws NoSuchElementException {
        int wrong = 0;
        GuiltyShave x = new GuiltyShave();
        long before = taken();
        x = new GuiltyShave();
        long made = taken() - before;
        if (made > MOST_OF_AN_OBJECT) {
            wrong++;
            System.out.println("a new object takes " + made + " bytes");
        }
        Texts.tell(x, 1, "y:!(g>[b+1]*2|n=3)&w<6?g-s+t;y:g-b");
        Texts.tell(x, 2, "d00;s0;a00;n;d12;s1;n");
        int[] town = Texts.words("sn2c20;pb4s3w1;pb0s5w0;pb9s0w6;dk3h2l2;dk6h5l9;dk2h1l1;dk9;dk8;dk1;dk4;d");
        round(x, town);
        round(x, town);
        before = taken();
        for (int i = 0; i < ROUNDS; i++) {
            round(x, town);
        }
        long each = (taken() - before) / ROUNDS;
        if (each > MOST_OF_A_ROUND) {
            wrong++;
            System.out.println("a round of calls takes " + each + " bytes");
        }
        System.out.println(wrong == 0 ? "the room is kept (" + made + " bytes an object)" : "the room is not kept");
        if (wrong != 0) System.exit(1);
    }

    private static void round(GuiltyShave x, int[] town) {
        x.end(0);
        for (int i = 0; i < town.length; i += 5) {
            sum += x.feed(town[i], town[i + 1], town[i + 2], town[i + 3], town[i + 4]);
        }
        sum += x.fault(0) + x.fault(1) + x.fault(2) + x.text(0);
        x.law(sum % 2 == 0 ? 0 : -1);
        x.rumour(sum & 7);
        for (int p = 0; p < 3; p++) {
            sum += x.commit(p, p) + x.commit(p, p + 1) + x.sell(p, 2 - p, p) + x.shave(p) + x.person(p, 0) + x.left(p, p);
            sum += x.skin(p, 1) + x.least(p, 0) + x.soon(p) + x.bargain(p, 0) + x.seen(p, 7, true) + x.sets(p, -1);
            sum += x.game(p, 1, 1, 0) + x.rests(p, -1) + x.odds(p, 40) + x.shares(p, 90) + x.owners(p) + x.wish(p);
            sum += x.deed(p, 1) + x.atone(p, p) + x.step(0, p, 1);
        }
        sum += x.ask(0) + x.image() + x.give(5) + x.day() + x.years(20, sum) + x.log(3, 1) + x.run(0, 0) + x.perform(0);
        sum += x.undo() + x.cover(7, 0) + x.clean() + x.back();
        for (int i = 0; i < 15; i++) {
            sum += x.all(i) + x.count(i);
        }
    }
}
