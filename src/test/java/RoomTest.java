import com.sun.management.ThreadMXBean;
import java.lang.management.ManagementFactory;

/** All calls of a run share one room: no call makes objects, but for an image kept the first time. */
public final class RoomTest {
    private static final ThreadMXBean THREADS = (ThreadMXBean) ManagementFactory.getThreadMXBean();
    private static final int ROUNDS = 2000, OBJECTS = 100;

    public static void main(String[] args) {
        IceVote x = Due.told("lake 20;cell 4 1;cell 5 2;week 3 1 9 9;voter 0 40 0;voter 5 60 1;voter 4 99 2;");
        long sum = round(x);
        long before = bytes();
        sum += round(x);
        long measuring = bytes() - before;
        before = bytes();
        for (int i = 0; i < ROUNDS; i++) {
            sum += round(x);
        }
        long spent = bytes() - before - measuring;
        Due.due("bytes of a round of all calls (" + sum + ")", spent / ROUNDS, 0);
        before = bytes();
        for (int i = 0; i < OBJECTS; i++) {
            sum += new IceVote().digest();
        }
        long each = (bytes() - before) / OBJECTS;
        Due.due("bytes of an object, " + each + ", are some few thousand (" + sum + ")", each < 16000 ? 1 : 0, 1);
        Due.end();
    }

    private static long bytes() {
        return THREADS.getThreadAllocatedBytes(Thread.currentThread().getId());
    }

    /** Each call once; what is told by the last ones of it is as at first of it. */
    private static long round(IceVote x) {
        long sum = x.image(0) + x.image(1) + x.lake(3) + x.read() + x.cell(3, 3) + x.weather(1, 2, 3) + x.ward(1, 30);
        sum += x.voter(1, 50, 6) + x.note(1, 2, 3, 4, 5) + x.voted(0, 1, 2, 3, 4) + x.type(32) + x.type(200);
        sum += x.day(9) + x.tread(3, 40) + x.stone(4) + x.undo() + x.of(1, 2) + x.about(1, 3);
        sum += x.then(3, 60, 1) + x.when(3, 198) + x.where(40, 60) + x.horses(198) + x.path(9, 0, 24, 3);
        sum += x.safe(0, 24) + x.cross(2, 0, 24) + x.apart(2, 6, 18, 0) + x.votes(0) + x.votes(1) + x.votes(2);
        sum += x.turn() + x.seen(1, 0) + x.lies() + x.stones(40, 0, 1) + x.is(1) + x.next(1) + x.who(0) + x.two(0, 1);
        sum += x.thaw(0, 40, 8, 3) + x.winters(9, 60) + x.part(0) + x.status(0) + x.count(2) + x.digest();
        sum += x.forget(0) + x.forget(1) + x.from(0) + x.from(1) + x.from(2);
        return sum;
    }
}
