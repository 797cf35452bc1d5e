import com.sun.management.ThreadMXBean;
import java.lang.management.ManagementFactory;

/** How much room a run takes: little is made by a call, as all calls of a run live in one room. */
public final class RoomTest {
    private static final int CALLS = 200;
    private static final long MOST_BYTES_NEW = 10_000, MOST_BYTES_A_CALL = 64;
    private static final Check check = new Check("RoomTest");

    private RoomTest() {
    }

    public static void main(String[] args) {
        ThreadMXBean threads = (ThreadMXBean) ManagementFactory.getThreadMXBean();
        long self = Thread.currentThread().getId();
        crowded();
        long before = threads.getThreadAllocatedBytes(self);
        OneFriend x = crowded();
        long made = threads.getThreadAllocatedBytes(self) - before;
        check.holds("a new one takes " + made + " bytes", made <= MOST_BYTES_NEW);
        for (int call = 0; call < 24; call++) {
            x = crowded();
            before = threads.getThreadAllocatedBytes(self);
            for (int i = 0; i < CALLS; i++) {
                ask(x, call, i);
            }
            made = threads.getThreadAllocatedBytes(self) - before;
            check.holds("call " + call + " takes " + made / CALLS + " bytes", made <= CALLS * MOST_BYTES_A_CALL);
        }
        check.close();
    }

    private static OneFriend crowded() {
        OneFriend x = new OneFriend();
        for (int kind = 0; kind < 5; kind++) {
            x.person(kind + 2, kind);
        }
        for (int i = 0; i < 4; i++) {
            x.friends(i, i + 1, true);
        }
        String text = "want 1 a<9&f=0|f=1&d>1;want 1 !(e>2|y=3);make 3 !f=1";
        for (int i = 0; i < text.length(); i++) {
            x.feed(text.charAt(i));
        }
        x.town();
        x.tape(0, 3, 60);
        return x;
    }

    private static void ask(OneFriend x, int call, int i) {
        switch (call) {
            case 0: x.befriends(i % 7, i % 10, i & 1); break;
            case 1: x.cheapest(i & 3); break;
            case 2: x.first(i & 1); break;
            case 3: x.goes(i & 1); break;
            case 4: x.made(); break;
            case 5: x.next(60, i & 1); break;
            case 6: x.odds(i & 1); break;
            case 7: x.mean(i & 1); break;
            case 8: x.amiss(i % 3); break;
            case 9: x.towns(2 + (i & 3), 1); break;
            case 10: x.far(0, 4); break;
            case 11: x.wish(0, true); break;
            case 12: x.kept(1); break;
            case 13: x.book(0, 1); break;
            case 14: x.looked(); break;
            case 15: x.image(); break;
            case 16: x.person(6, 1); x.undo(); break;
            case 17: x.act(i % 5, i % 3, i); break;
            case 18: x.tape(1 + i % 5, i % 5, 60); break;
            case 19: x.shift(0, 0, 0, 1, 59); break;
            case 20: x.town(); break;
            case 21: x.feed('w'); x.town(); break;
            case 22: x.judge(1, 0); break;
            default: x.of(0, 3); break;
        }
    }
}
