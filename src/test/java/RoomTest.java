import com.sun.management.ThreadMXBean;
import java.lang.management.ManagementFactory;

/** All calls of a run live in one room: an object is small, and no call makes an object or an array. */
public final class RoomTest {
    /** Above what the virtual machine itself may take while it measures, far below one array a call. */
    private static final long SLACK = 4096;
    private static final long OBJECT = 16384;

    private static final ThreadMXBean THREADS = (ThreadMXBean) ManagementFactory.getThreadMXBean();

    public static void main(String[] args) {
        for (int i = 0; i < 3; i++) {
            taken();
        }
        long before = THREADS.getCurrentThreadAllocatedBytes();
        SoldLetters x = new SoldLetters();
        long made = THREADS.getCurrentThreadAllocatedBytes();
        Checks.isTrue("an object takes " + (made - before) + " bytes", made - before <= OBJECT);
        Checks.isTrue("it is new", x.count(12) == 0);
        long taken = taken();
        Checks.isTrue("the calls of a run take " + taken + " bytes", taken <= SLACK);
        Checks.end();
    }

    private static long taken() {
        SoldLetters x = new SoldLetters();
        String text = "abcdabc";
        long before = THREADS.getCurrentThreadAllocatedBytes();
        for (int i = 0; i < text.length(); i++) {
            x.type(text.charAt(i));
        }
        for (int row = 0; row < 7; row++) {
            x.setRow(row);
        }
        x.addWords();
        for (int i = 0; i < 20; i++) {
            x.keep();
            x.give(1);
            x.guess(4, 'q');
            x.guess(4, '.');
            x.guessWord(0, 0);
            x.undo();
            x.buy(4);
            x.restore();
            x.check(0);
            x.setKey(7, i);
            x.dropWord(0);
            x.addWords();
            x.could(4, 0);
            x.cell(6, 6, 3);
            x.number(4, 4);
            x.word(0, 6);
            x.listed(0, 2);
            x.fits(0, 0);
            x.count(5);
            x.setRow(3);
        }
        return THREADS.getCurrentThreadAllocatedBytes() - before;
    }
}
