/** Promises 23 to 25: spring, odds, seed. */
public final class SpringsTest {
    private static final Due due = new Due();

    public static void main(String[] args) {
        spring();
        springOfTheDead();
        odds();
        seed();
        due.end();
    }

    /** From z 0 the draws name singers 0, 7, 6, 2 with parts 4, 5, 8, 4. */
    private static LavenderParts three() {
        LavenderParts x = new LavenderParts();
        for (int i = 0; i < 3; i++) {
            x.singer(0, 59);
            x.change(i, 8, 50);
        }
        x.seed(0);
        return x;
    }

    private static void spring() {
        LavenderParts x = three();
        due.is("spring 0", x.spring(0), Due.BEYOND);
        due.is("spring 21", x.spring(21), Due.BEYOND);
        due.is("no draws", x.count(6), 0);
        due.is("spring 1", x.spring(1), 1);
        due.is("part", x.of(0, 5), 4);
        due.is("left", x.of(0, 7), 3);
        due.is("waits", x.of(0, 8), 0);
        due.is("day", x.now(0), 1);
        due.is("spring 3", x.spring(3), 4);
        due.is("days", x.now(0), 4);
        due.is("sold by the first", x.of(0, 9), 18);
        due.is("sold by the third", x.of(2, 9), 6);
        due.is("left of the third", x.of(2, 7), 3);
        due.is("part of the second", x.of(1, 5), 3);
        due.is("waits of the second", x.of(1, 8), 46);
        due.is("z", x.count(6), -853684456);
        x.spring(20);
        due.is("days", x.now(0), 24);
    }

    private static void springOfTheDead() {
        LavenderParts x = three();
        x.change(0, 6, 1);
        due.is("the dead don't begin", x.spring(1), 0);
        due.is("part stays", x.of(0, 5), 3);
        due.is("left stays", x.of(0, 7), 0);
        due.is("draws all the same", x.spring(3), 4);
        due.is("z", x.count(6), -853684456);
        LavenderParts y = new LavenderParts();
        due.is("nobody is there", y.spring(4), 0);
        due.is("z from 1", y.count(6), -1661227463);
        due.is("still", y.now(3), 4);
    }

    private static void odds() {
        LavenderParts x = new LavenderParts();
        odds(x, 0, 1, 1);
        odds(x, 1, 0, 1);
        odds(x, 10, 0, 1);
        x.singer(0, 0);
        odds(x, 0, 1, 1);
        odds(x, 1, 1, 60);
        odds(x, 10, 1, 604661760000000000L);
        x.singer(0, 0);
        odds(x, 1, 1, 60);
        x.singer(0, 59);
        odds(x, 10, 1, 590490000000000L);
        for (int i = 3; i < 8; i++) {
            x.singer(i - 3, i);
        }
        odds(x, 1, 7, 60);
        x.change(0, 1, 30);
        odds(x, 10, 1024, 576650390625L);
        x.change(0, 6, 1);
        odds(x, 2, 49, 3600);
        x.change(7, 2, 6);
        odds(x, 3, 1, 1000);
        x.change(7, 2, -1);
        odds(x, 1, 7, 60);
        due.is("n -1", x.odds(-1, 0), Due.BEYOND);
        due.is("n 11", x.odds(11, 0), Due.BEYOND);
        due.is("what -1", x.odds(1, -1), Due.BEYOND);
        due.is("what 2", x.odds(1, 2), Due.BEYOND);
        due.is("no draw", x.count(6), 1);
    }

    private static void odds(LavenderParts x, int n, long above, long below) {
        due.is("above, n " + n, x.odds(n, 0), above);
        due.is("below, n " + n, x.odds(n, 1), below);
    }

    private static void seed() {
        LavenderParts x = new LavenderParts();
        due.is("first", x.seed(Integer.MIN_VALUE), 1);
        due.is("least", x.seed(-1000001), Integer.MIN_VALUE);
        due.is("like a finding", x.seed(5), -1000001);
        due.is("z", x.count(6), 5);
        due.is("no finding", x.status(-1), 0);
    }
}
