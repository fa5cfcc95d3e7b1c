/** The edges of promises 30 to 34, each sentence by itself. */
public final class EdgesGuestsRidesTest extends Edge {
    public static void main(String[] args) {
        guest();
        part();
        gather();
        ride();
        rideSteps();
        rideEnds();
        draws();
        seed();
        end(30, 34);
    }

    /** One train from 1 to THE GOAL, 0. */
    private static CreweChange oneTrain() {
        CreweChange x = withStops(9, 9);
        x.train(0, 10, 600, 10);
        return x;
    }

    private static CreweChange tenGuests() {
        CreweChange x = oneTrain();
        for (int i = 0; i < 10; i++) x.guest(i % 2, 100 * i);
        return x;
    }

    /** A number that z may be told so that the next draw, by 100, leaves this rest. */
    private static int seedFor(int rest) {
        for (int z = 0; z < 100000; z++)
            if ((drawn(z) >>> 8) % 100 == rest) return z;
        return 0;
    }

    private static void guest() {
        of(30, "a STOP that there is");
        CreweChange x = oneTrain();
        due(x.guest(0, 5), 0);
        due(x.guest(1, 5), 1);
        refused(Edge::crewe, BAD, y -> y.guest(-1, 5), y -> y.guest(3, 5), y -> y.guest(LEAST, 5), y -> y.guest(MOST, 5));
        due(new CreweChange().guest(0, 0), BAD);
        of(30, "a minute 0 .. 1439");
        due(x.guest(1, 0), 2);
        due(x.guest(1, 1439), 3);
        refused(Edge::crewe, BAD, y -> y.guest(0, -1), y -> y.guest(0, 1440), y -> y.guest(0, LEAST), y -> y.guest(0, MOST), y -> y.guest(2, 2879));
        of(30, "10 at most, numbered from 0");
        for (int i = 4; i < 10; i++) due(x.guest(1, 5), i);
        due(x.guest(1, 5), FULL);
        due(x.count(4), 10);
        refused(EdgesGuestsRidesTest::tenGuests, FULL, y -> y.guest(0, 0), y -> y.guest(1, 1439));
        of(30, "BAD ahead of FULL");
        refused(EdgesGuestsRidesTest::tenGuests, BAD, y -> y.guest(2, 0), y -> y.guest(-1, 0), y -> y.guest(0, 1440), y -> y.guest(0, -1));
        of(30, "the minute 0 and the minute 1439 are kept");
        CreweChange y = oneTrain();
        y.guest(0, 1439);
        due(y.gather(0), 143900);
        y.part();
        y.guest(0, 0);
        due(y.gather(0), 0);
    }

    private static void part() {
        of(31, "how many there were: none, ten");
        CreweChange x = tenGuests();
        due(x.part(), 10);
        due(x.part(), 0);
        due(x.count(4), 0);
        due(x.gather(0), NONE);
        due(new CreweChange().part(), 0);
        of(31, "numbers begin at 0 again");
        for (int i = 0; i < 10; i++) due(x.guest(1, 5), i);
        due(x.guest(1, 5), FULL);
        of(31, "nothing else parts");
        CreweChange y = crewe();
        due(y.part(), 2);
        due(y.guest(0, 590), 0);
        due(y.guest(1, 600), 1);
        same(y, crewe());
        of(31, "GUESTS of THE IMAGE stay");
        x.keep();
        x.part();
        x.back();
        due(x.count(4), 10);
    }

    private static CreweChange noGuests() {
        CreweChange x = crewe();
        x.part();
        return x;
    }

    private static void gather() {
        of(32, "what 0, 1");
        refused(Edge::crewe, BAD, y -> y.gather(-1), y -> y.gather(2), y -> y.gather(LEAST), y -> y.gather(MOST));
        of(32, "BAD ahead of NONE");
        refused(EdgesGuestsRidesTest::noGuests, BAD, y -> y.gather(-1), y -> y.gather(2));
        of(32, "NONE: there are no GUESTS");
        refused(EdgesGuestsRidesTest::noGuests, NONE, y -> y.gather(0), y -> y.gather(1));
        of(32, "one GUEST, of number 0; the MEAN may be 0");
        CreweChange x = oneTrain();
        x.guest(0, 0);
        due(x.gather(0), 0);
        due(x.gather(1), 0);
        of(32, "the greatest; of several the least number");
        x.guest(1, 600);
        due(x.gather(0), 61000);
        due(x.gather(1), 1);
        x.guest(0, 610);
        due(x.gather(1), 1);
        x.guest(0, 611);
        due(x.gather(0), 61100);
        due(x.gather(1), 3);
        x.guest(1, 601);
        due(x.gather(0), 288000);
        due(x.gather(1), 4);
        x.guest(1, 1439);
        due(x.gather(1), 4);
        of(32, "the last of ten");
        CreweChange y = oneTrain();
        for (int i = 0; i < 9; i++) y.guest(0, 7);
        due(y.gather(1), 0);
        y.guest(0, 8);
        due(y.gather(0), 800);
        due(y.gather(1), 9);
        of(32, "as it is now: another GOAL, another TRAIN");
        y.aim(0, 1);
        due(y.gather(0), 288000);
        due(y.gather(1), 0);
    }

    private static void ride() {
        of(33, "a STOP that there is, a minute 0 .. 2879; z stays, if refused");
        refused(Edge::crewe, BAD, y -> y.ride(-1, 600), y -> y.ride(3, 600), y -> y.ride(0, -1), y -> y.ride(0, 2880), y -> y.ride(2, 2880), y -> y.ride(LEAST, 0), y -> y.ride(0, MOST));
        due(new CreweChange().ride(0, 0), BAD);
        of(33, "at THE GOAL it ends at once, without a draw");
        CreweChange x = oneTrain();
        x.train(0, 1, 600, 1);
        due(x.ride(0, 0), 0);
        due(x.ride(0, 600), 600);
        due(x.ride(0, 2879), 2879);
        due(x.count(10), 1);
        of(33, "without one that is TAKEN: 2880, without a draw");
        due(x.ride(1, 601), 2880);
        due(x.ride(1, 2879), 2880);
        due(x.count(10), 1);
        of(33, "GOES and WAITS is the minute or more");
        due(x.ride(1, 600), 610);
        due(x.count(10), drawn(1));
        due(x.ride(1, 0), 610);
        due(x.count(10), drawn(drawn(1)));
        of(33, "LEAVE 0 at minute 0");
        x.set(0, 1, 0);
        due(x.ride(1, 0), 10);
        due(x.ride(1, 1), 2880);
    }

    private static void rideSteps() {
        of(33, "the rest by 100: the first STEP by which CHANCES together are above it");
        int[][] chances = {{100, 0, 0, 0}, {25, 25, 25, 25}, {1, 98, 0, 1}, {0, 1, 98, 1}, {99, 0, 0, 1}, {0, 0, 50, 50}, {0, 100, 0, 0}, {50, 0, 50, 0}, {0, 0, 0, 100}};
        int[] seeds = new int[100];
        for (int rest = 0; rest < 100; rest++) seeds[rest] = seedFor(rest);
        for (int[] c : chances) {
            CreweChange x = oneTrain();
            x.chances(0, c[1], c[2], c[3]);
            for (int rest = 0; rest < 100; rest++) {
                int step = rest < c[0] ? 0 : rest < c[0] + c[1] ? 1 : rest < c[0] + c[1] + c[2] ? 2 : 3;
                x.seed(seeds[rest]);
                due(x.ride(1, 600), 610 + 5 * step);
            }
        }
        of(33, "it leaves with one at LATER, or at the minute, if that is more");
        CreweChange y = oneTrain();
        text(y, "waits 30");
        y.chances(0, 0, 100, 0);
        int[][] there = {{0, 620}, {610, 620}, {611, 621}, {630, 640}};
        for (int[] t : there) due(y.ride(1, t[0]), t[1]);
        due(y.ride(1, 631), 2880);
    }

    private static void rideEnds() {
        of(33, "a draw for each TRAIN that is taken, the WALK between, none at THE GOAL");
        CreweChange x = withStops(50, 4, 50);
        x.train(0, 1, 600, 10);
        x.train(0, 12, 614, 10);
        x.aim(0, 2);
        due(x.ride(0, 600), 624);
        due(x.count(10), drawn(drawn(1)));
        of(33, "one that is missed by a minute: 2880, and a draw for what was taken");
        x.set(1, 1, 613);
        due(x.ride(0, 600), 2880);
        due(x.count(10), drawn(drawn(drawn(1))));
        of(33, "by draws: the one change is made, the other is not");
        x.set(1, 1, 614);
        x.chances(0, 50, 0, 0);
        x.seed(seedFor(49));
        due(x.ride(0, 600), 624);
        x.seed(seedFor(50));
        due(x.ride(0, 600), 2880);
        of(33, "six stops, one behind the other");
        CreweChange y = withStops(0, 0, 0, 0, 0, 0);
        int[] ends = {1, 12, 23, 34, 45};
        int z = 1;
        for (int i = 0; i < 5; i++) {
            y.train(0, ends[i], i, 1);
            z = drawn(z);
        }
        y.aim(0, 5);
        due(y.ride(0, 0), 5);
        due(y.count(10), z);
        of(33, "there and back again, as long as they wait, and it ends");
        CreweChange u = withStops(0, 0, 0);
        u.train(0, 12, 600, 1);
        u.train(0, 21, 600, 1);
        text(u, "waits 30");
        text(u, "walk 0");
        due(u.ride(1, 600), 2880);
        // taken at 600, 601, .. 630: 31 trains
        int after = 1;
        for (int i = 0; i < 31; i++) after = drawn(after);
        due(u.count(10), after);
    }

    private static void draws() {
        of(33, "z becomes z * 1103515245 + 12345, an int that wraps; z >>> 8 is never below 0");
        CreweChange x = oneTrain();
        x.chances(0, 25, 25, 25);
        int[] seeds = {0, 1, -1, LEAST, MOST, LEAST + 1, 255, -256, 1 << 30, 12345, -12345};
        for (int z : seeds) {
            x.seed(z);
            due(x.ride(1, 600), 610 + 5 * ((drawn(z) >>> 8) % 100 / 25));
            due(x.count(10), drawn(z));
        }
        of(33, "draws go on from one RIDE to the next");
        x.seed(7);
        int z = 7;
        for (int i = 0; i < 50; i++) {
            z = drawn(z);
            due(x.ride(1, 600), 610 + 5 * ((z >>> 8) % 100 / 25));
        }
        of(33, "from 1 on, worked out by hand: rests 54, 32, 56");
        x.seed(1);
        int[] known = {1103527590, -1770082073, 662824084};
        int[] there = {620, 615, 620};
        for (int i = 0; i < 3; i++) {
            due(x.ride(1, 600), there[i]);
            due(x.count(10), known[i]);
        }
    }

    private static void seed() {
        of(34, "z becomes v, any int: what it was");
        CreweChange x = new CreweChange();
        int[] vs = {0, -1, LEAST, MOST, NONE, BAD, 1};
        int was = 1;
        for (int v : vs) {
            due(x.seed(v), was);
            due(x.count(10), v);
            was = v;
        }
        of(34, "nothing else changes");
        CreweChange y = crewe();
        due(y.seed(4), 12345);
        due(y.seed(12345), 4);
        same(y, crewe());
        of(34, "z of THE IMAGE stays");
        x.seed(5);
        x.keep();
        x.seed(6);
        x.back();
        due(x.count(10), 5);
    }
}
