import java.util.ArrayList;
import java.util.List;

/**
 * What the tests of the edges share: a check that is told by its promise and the sentence it stands for, and the proof
 * that a refused call changes nothing: an object with the call and one without it answer every look alike.
 */
abstract class Edge {
    static final int BAD = -1000000001, NO = -1000000002, FULL = -1000000003, NONE = -1000000005;
    static final int NOTHING = -1000000011, KIND = -1000000012, INDEX = -1000000013, SIZE = -1000000014;
    static final int LEAST = Integer.MIN_VALUE, MOST = Integer.MAX_VALUE;

    /** A call on an object, or a few. */
    interface Call {
        long on(CreweChange x);
    }

    /** Makes an object and brings it where a test begins. */
    interface Scene {
        CreweChange made();
    }

    private static final int PROMISES = 48;
    private static final int[] checks = new int[PROMISES + 1];
    private static int wrong = 0;
    private static int promise = 0;
    private static String sentence = "";

    /** The checks behind it are of this promise, for this sentence. */
    static void of(int number, String words) {
        promise = number;
        sentence = words;
    }

    static void due(long got, long want) {
        checks[promise]++;
        if (got != want) {
            wrong++;
            System.out.println("promise " + promise + " (" + sentence + "), check " + checks[promise]
                + ": answered " + got + ", due is " + want);
        }
    }

    /** Each of these values is refused, and nothing has changed. */
    static void refused(Scene scene, long want, Call... calls) {
        for (Call call : calls) {
            CreweChange x = scene.made();
            due(call.on(x), want);
            same(x, scene.made());
        }
    }

    /** Nothing that can be seen tells the one from the other. Both are used up by it. */
    static void same(CreweChange x, CreweChange y) {
        List<Long> one = look(x);
        List<Long> other = look(y);
        due(one.size(), other.size());
        for (int i = 0; i < Math.min(one.size(), other.size()); i++) due(one.get(i), other.get(i));
    }

    /** Every promise from the first to the last must have been checked here. */
    static void end(int first, int last) {
        for (int i = first; i <= last; i++) {
            if (checks[i] == 0) {
                wrong++;
                System.out.println("promise " + i + " has no check");
            }
        }
        int all = 0;
        for (int many : checks) all += many;
        System.out.println(wrong == 0 ? all + " edges are as due" : wrong + " answers are not as due");
        if (wrong != 0) System.exit(1);
    }

    /** All that calls can show of an object: its world, slots, sheets, tape and numbers, and the world of its image. */
    private static List<Long> look(CreweChange x) {
        List<Long> seen = new ArrayList<>();
        lookAtWorld(x, seen);
        for (int slot = 0; slot < 5; slot++) {
            see(seen, x.rest(slot, 1000), x.ask(slot, 0), x.ask(slot, 2), x.ask(slot, 4));
            lookAtItems(x, slot, 5, seen);
        }
        for (int sheet = 0; sheet < 4; sheet++) {
            x.lay(0, 0, 0);
            see(seen, x.lay(0, 2, sheet), x.mark(sheet, 24, NONE));
            lookAtItems(x, 0, 24, seen);
        }
        see(seen, x.text(), x.textTold(x.count(2) - 1, 0), x.textTold(x.count(2) - 1, 1), x.check(1), x.back());
        for (int what = 0; what <= 10; what++) see(seen, x.count(what));
        see(seen, x.gather(0), x.gather(1), x.plan(0), x.plan(1), x.never(0), x.never(1));
        return seen;
    }

    private static void lookAtItems(CreweChange x, int slot, int places, List<Long> seen) {
        int item = 0;
        for (int place = 0; place <= places && item != INDEX && item != NOTHING; place++) {
            item = x.item(slot, place);
            see(seen, item);
        }
    }

    private static void lookAtWorld(CreweChange x, List<Long> seen) {
        for (int what = 0; what <= 10; what++) see(seen, x.count(what));
        for (int i = 0; i < x.count(1); i++)
            for (int what = 0; what < 18; what++) see(seen, x.told(i, what));
        for (int i = 0; i < x.count(2); i++) see(seen, x.textTold(i, 0), x.textTold(i, 1));
        see(seen, x.why(0), x.why(1), x.why(2), x.judge(), x.plan(0), x.plan(1), x.never(0), x.never(1));
        see(seen, x.gather(0), x.gather(1));
        for (int stop = 0; stop < x.count(0); stop++) {
            see(seen, x.walk(stop), x.mean(stop, 600), x.taken(stop, 600), x.sure(stop, 600), x.cheap(stop, 600));
        }
    }

    private static void see(List<Long> seen, long... answers) {
        for (long answer : answers) seen.add(answer);
    }

    static CreweChange withStops(int... walks) {
        CreweChange x = new CreweChange();
        for (int walk : walks) x.stop(walk);
        return x;
    }

    /** An object with something of everything, and an image of less. */
    static CreweChange crewe() {
        CreweChange x = creweUntold();
        x.tell(5);
        x.tell(1);
        return x;
    }

    /** The same without numbers that wait. */
    static CreweChange creweUntold() {
        CreweChange x = withStops(9, 4, 0);
        x.train(0, 1, 600, 10);
        x.train(2, 12, 610, 20);
        x.train(3, 12, 640, 30);
        x.train(4, 20, 700, 5);
        x.hangs(2, 0);
        x.chances(0, 20, 10, 5);
        x.chances(2, 50, 0, 0);
        x.set(1, 0, 30);
        x.aim(0, 2);
        x.guest(0, 590);
        x.keep();
        x.guest(1, 600);
        x.add(0);
        x.add(1);
        text(x, "tide n*9+d");
        x.day(7);
        x.aim(1, 700);
        x.seed(12345);
        x.sheet(0, 0, 3);
        x.mark(0, 0, 25);
        x.mark(0, 2, -7);
        x.sheet(1, 1, 5);
        x.mark(1, 1, NONE);
        x.mark(1, 4, 99999);
        x.sheet(2, 0, 0);
        x.lay(0, 1, 1);
        x.lay(1, 2, 0);
        x.lay(2, 3, -11);
        x.lay(4, 2, 1);
        feed(x, "walk w");
        return x;
    }

    /** Comes to the tape, which must have room for the blanks that fill up the last twelve bytes. */
    static void feed(CreweChange x, String text) {
        int had = x.count(9);
        StringBuilder b = new StringBuilder(text);
        while (b.length() % 12 != 0) b.append(' ');
        for (int i = 0; i < b.length(); i += 12) x.feed(four(b, i), four(b, i + 4), four(b, i + 8));
        x.trim(had + text.length());
    }

    static int four(CharSequence b, int i) {
        return b.charAt(i) << 24 | b.charAt(i + 1) << 16 | b.charAt(i + 2) << 8 | b.charAt(i + 3);
    }

    static int text(CreweChange x, String text) {
        feed(x, text);
        return x.text();
    }

    static String times(int many, String what) {
        return what.repeat(many);
    }

    /** The number that z becomes by a draw. */
    static int drawn(int z) {
        return z * 1103515245 + 12345;
    }
}
