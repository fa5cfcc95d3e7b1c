/** The edges of promises 44 to 48, each sentence by itself. */
public final class EdgesRowsImagesTest extends Edge {
    public static void main(String[] args) {
        tell();
        check();
        checkUsesUp();
        checkPlaces();
        checkMany();
        checkByImage();
        keep();
        back();
        backUndoes();
        backLeaves();
        count();
        end(44, 48);
    }

    /** Guests at THE GOAL, so that their rides end at once: 7, 8, 9, .. */
    private static CreweChange guestsAtGoal(int many) {
        CreweChange x = withStops(0, 0);
        for (int i = 0; i < many; i++) x.guest(0, 7 + i);
        x.keep();
        return x;
    }

    private static void tellRides(CreweChange x, int guests, int rides) {
        for (int i = 0; i < rides; i++) {
            x.tell(7 + i % guests);
            x.tell(0);
        }
    }

    private static CreweChange sixtyWait() {
        CreweChange x = guestsAtGoal(1);
        tellRides(x, 1, 30);
        return x;
    }

    private static void tell() {
        of(44, "how many: one, sixty");
        CreweChange x = new CreweChange();
        for (int i = 1; i <= 60; i++) due(x.tell(i), i);
        due(x.count(8), 60);
        of(44, "FULL: 60 wait");
        due(x.tell(61), FULL);
        due(x.count(8), 60);
        refused(EdgesRowsImagesTest::sixtyWait, FULL, y -> y.tell(0), y -> y.tell(7));
        of(44, "FULL leaves the numbers as they were");
        CreweChange y = sixtyWait();
        y.tell(5);
        due(y.check(30), 0);
        of(44, "any number waits");
        int[] any = {0, -1, LEAST, MOST, NONE, FULL};
        CreweChange z = new CreweChange();
        for (int i = 0; i < any.length; i++) due(z.tell(any[i]), i + 1);
        of(44, "from one on again, when none wait");
        x.check(1);
        due(x.tell(9), 1);
    }

    private static void check() {
        of(45, "n 1 .. 30");
        CreweChange x = guestsAtGoal(1);
        int[] bad = {0, -1, 31, LEAST, MOST};
        for (int n : bad) {
            tellRides(x, 1, 1);
            due(x.check(n), BAD);
        }
        tellRides(x, 1, 1);
        due(x.check(1), 0);
        tellRides(x, 1, 30);
        due(x.check(30), 0);
        of(45, "NO: there is no IMAGE, though there are GUESTS");
        CreweChange y = withStops(0, 0);
        y.guest(0, 7);
        tellRides(y, 1, 1);
        due(y.check(1), NO);
        of(45, "BAD ahead of NO");
        due(y.check(0), BAD);
        due(y.check(31), BAD);
        of(45, "NO: THE IMAGE has no GUESTS, though there are some now");
        CreweChange z = withStops(0, 0);
        z.keep();
        z.guest(0, 7);
        tellRides(z, 1, 1);
        due(z.check(1), NO);
        due(z.check(31), BAD);
        z.keep();
        tellRides(z, 1, 1);
        due(z.check(1), 0);
        of(45, "GUESTS of THE IMAGE count, though there are none now");
        z.part();
        tellRides(z, 1, 1);
        due(z.check(1), 0);
    }

    private static CreweChange noImage() {
        CreweChange x = withStops(3, 4);
        x.guest(0, 7);
        x.train(0, 1, 600, 5);
        return x;
    }

    private static void checkUsesUp() {
        of(45, "none do then, whatever is answered: BAD, NO, a number, 0; all else is as it was");
        CreweChange bad = crewe();
        due(bad.check(0), BAD);
        due(bad.count(8), 0);
        same(bad, creweUntold());
        CreweChange wrong = crewe();
        due(wrong.check(30), 1);
        due(wrong.count(8), 0);
        same(wrong, creweUntold());
        CreweChange no = noImage();
        no.tell(1);
        due(no.check(1), NO);
        due(no.count(8), 0);
        same(no, noImage());
        CreweChange right = guestsAtGoal(2);
        tellRides(right, 2, 2);
        due(right.check(2), 0);
        due(right.count(8), 0);
        same(right, guestsAtGoal(2));
        of(45, "without numbers that wait");
        due(right.check(1), 1);
        due(guestsAtGoal(1).check(30), 1);
    }

    private static void checkPlaces() {
        of(45, "1 and how many stand right ahead of the first that is not: each place of 6");
        CreweChange x = guestsAtGoal(2);
        int[] told = {7, 0, 8, 0, 7, 0};
        for (int spoiled = 0; spoiled < 6; spoiled++) {
            for (int i = 0; i < 6; i++) x.tell(told[i] + (i == spoiled ? 1 : 0));
            due(x.check(3), 1 + spoiled);
        }
        of(45, "of several that are not the first");
        for (int i = 0; i < 6; i++) x.tell(told[i] + (i == 2 || i == 5 ? -1 : 0));
        due(x.check(3), 3);
        of(45, "or is missing: none, one, .. five of six");
        for (int many = 0; many < 6; many++) {
            for (int i = 0; i < many; i++) x.tell(told[i]);
            due(x.check(3), 1 + many);
        }
        of(45, "or one too many");
        for (int more = 1; more <= 3; more++) {
            for (int v : told) x.tell(v);
            for (int i = 0; i < more; i++) x.tell(told[0]);
            due(x.check(3), 7);
        }
        of(45, "too many, though they are those of the next RIDES");
        tellRides(x, 2, 3);
        x.tell(8);
        due(x.check(3), 7);
        tellRides(x, 2, 3);
        x.tell(8);
        x.tell(1);
        due(x.check(3), 7);
        tellRides(x, 2, 4);
        due(x.check(3), 7);
        of(45, "the first that is not stands ahead of what is too many");
        tellRides(x, 2, 1);
        x.tell(9);
        x.tell(0);
        x.tell(7);
        due(x.check(2), 3);
    }

    private static void checkMany() {
        of(45, "sixty numbers: 30 RIDES; 59; one too many for 29");
        for (int guests = 1; guests <= 10; guests++) {
            CreweChange x = guestsAtGoal(guests);
            tellRides(x, guests, 30);
            due(x.check(30), 0);
            tellRides(x, guests, 29);
            x.tell(7 + 29 % guests);
            due(x.check(30), 60);
            tellRides(x, guests, 29);
            due(x.check(30), 59);
            tellRides(x, guests, 30);
            due(x.check(29), 59);
        }
        of(45, "by numbers, round and round: the tenth, then the first");
        CreweChange y = guestsAtGoal(10);
        tellRides(y, 10, 11);
        due(y.check(11), 0);
        tellRides(y, 10, 10);
        y.tell(17);
        due(y.check(11), 21);
    }

    private static void checkByImage() {
        of(45, "the minute at which each ends, and how many TRAINS were taken: 2880 and 0, 2880 and 1, 2");
        CreweChange x = withStops(9, 4, 9);
        x.train(0, 1, 600, 10);
        x.train(0, 12, 614, 10);
        x.train(0, 1, 700, 10);
        // too soon by a minute for who comes by the first and walks
        x.train(0, 12, 612, 1);
        text(x, "waits n=3");
        x.aim(0, 2);
        x.guest(0, 600);
        x.guest(0, 701);
        x.guest(0, 601);
        x.guest(2, 1439);
        x.guest(1, 613);
        x.keep();
        int[] told = {624, 2, 2880, 0, 2880, 1, 1439, 0, 614, 1};
        for (int again = 0; again < 2; again++) {
            for (int v : told) x.tell(v);
            due(x.check(5), 0);
        }
        of(45, "by THE IMAGE, not by what is now");
        x.set(0, 1, 5);
        x.aim(0, 0);
        x.part();
        x.seed(9);
        text(x, "walk 99");
        text(x, "waits 0");
        for (int v : told) x.tell(v);
        due(x.check(5), 0);
        due(x.count(10), 9);
        due(x.count(5), 0);
        of(45, "draws go on from RIDE to RIDE, from z of THE IMAGE on, each time anew");
        CreweChange y = withStops(0, 0);
        y.train(0, 10, 600, 10);
        y.chances(0, 25, 25, 25);
        y.guest(1, 600);
        y.guest(0, 3);
        y.seed(-77);
        y.keep();
        y.seed(5);
        for (int again = 0; again < 2; again++) {
            int z = -77;
            for (int i = 0; i < 15; i++) {
                z = drawn(z);
                y.tell(610 + 5 * ((z >>> 8) % 100 / 25));
                y.tell(1);
                y.tell(3);
                y.tell(0);
            }
            due(y.check(30), 0);
        }
        due(y.count(10), 5);
        y.back();
        due(y.count(10), -77);
    }

    private static CreweChange fullWorld() {
        CreweChange x = new CreweChange();
        for (int i = 0; i < 6; i++) x.stop(5 + i);
        for (int i = 0; i < 12; i++) x.train(0, i % 2 == 0 ? 1 : 10, i, 5);
        for (int i = 0; i < 14; i++) text(x, i < 13 ? "walk 0" : "walk 1");
        for (int i = 0; i < 6; i++) x.add(i < 5 ? i : 6);
        x.aim(0, 5);
        for (int i = 0; i < 10; i++) x.guest(i < 9 ? 5 : 0, 0);
        return x;
    }

    private static void keep() {
        of(46, "how many TRAINS: none, twelve");
        CreweChange x = new CreweChange();
        due(x.keep(), 0);
        x.stop(0);
        x.stop(0);
        for (int i = 0; i < 12; i++) x.train(0, 1, i, 5);
        due(x.keep(), 12);
        of(46, "as many as there may be of all are kept");
        CreweChange full = fullWorld();
        due(full.keep(), 12);
        full.part();
        full.clear();
        full.seed(8);
        due(full.back(), 12);
        int[] most = {6, 12, 14, 6, 10, 5, 720, 0, 0, 0, 1};
        for (int what = 0; what <= 10; what++) due(full.count(what), most[what]);
        due(full.walk(5), 1);
        due(full.why(2), 13);
        due(full.told(11, 3), 11);
        due(full.judge(), 5);
        due(full.gather(0), 288000);
        due(full.gather(1), 9);
        of(46, "a later IMAGE takes the place of the one before");
        due(x.back(), 12);
        CreweChange y = withStops(1, 2);
        y.keep();
        y.day(5);
        y.keep();
        y.day(6);
        y.back();
        due(y.count(7), 5);
        of(46, "keep() changes nothing of what is now");
        CreweChange z = crewe();
        due(z.keep(), 4);
        int[] all = {3, 4, 1, 2, 2, 2, 700, 7, 2, 6, 12345};
        for (int what = 0; what <= 10; what++) due(z.count(what), all[what]);
        due(z.keep(), 4);
        due(z.back(), 4);
        for (int what = 0; what <= 10; what++) due(z.count(what), all[what]);
    }

    private static void back() {
        of(47, "NO: there is none");
        refused(EdgesRowsImagesTest::noImage, NO, y -> y.back());
        refused(CreweChange::new, NO, y -> y.back());
        of(47, "again and again");
        CreweChange x = crewe();
        int[] all = {3, 4, 0, 0, 1, 2, 720, 0, 2, 6, 1};
        for (int again = 0; again < 3; again++) {
            due(x.back(), 4);
            for (int what = 0; what <= 10; what++) due(x.count(what), all[what]);
            x.stop(1);
            x.train(0, 1, 5, 5);
            x.day(again + 3);
            x.guest(0, 9);
            x.seed(4);
        }
        of(47, "to an IMAGE of nothing");
        CreweChange y = new CreweChange();
        y.keep();
        for (int i = 0; i < 6; i++) y.stop(5);
        for (int i = 0; i < 12; i++) y.train(0, 1, 5, 5);
        for (int i = 0; i < 6; i++) y.add(0);
        for (int i = 0; i < 10; i++) y.guest(0, 0);
        for (int i = 0; i < 14; i++) text(y, "walk 1");
        y.aim(0, 5);
        due(y.back(), 0);
        int[] none = {0, 0, 0, 0, 0, 0, 720, 0, 0, 0, 1};
        for (int what = 0; what <= 10; what++) due(y.count(what), none[what]);
        due(y.walk(0), BAD);
        due(y.why(2), NONE);
        same(y, emptyImage());
    }

    private static CreweChange emptyImage() {
        CreweChange x = new CreweChange();
        x.keep();
        return x;
    }

    private static CreweChange keptCrewe() {
        CreweChange x = crewe();
        x.keep();
        return x;
    }

    private static void backUndoes() {
        of(47, "all is as THE IMAGE: every call that changes something of it is undone");
        Call[] changes = {y -> y.stop(5), y -> y.train(0, 1, 5, 5), y -> y.turns(0, 2), y -> y.set(0, 0, 9), y -> y.set(0, 1, 9), y -> y.set(0, 2, 9), y -> y.chances(1, 10, 20, 30), y -> y.hangs(2, 1), y -> y.hangs(2, NONE),
            y -> y.day(9), y -> y.add(0), y -> y.clear(), y -> y.aim(0, 0), y -> y.aim(1, 5), y -> y.guest(0, 0), y -> y.part(), y -> y.ride(0, 590), y -> y.seed(5), y -> pourNew(y), y -> planNew(y)};
        for (Call change : changes) {
            CreweChange x = keptCrewe();
            change.on(x);
            x.mean(0, 600);
            x.sure(0, 600);
            x.cheap(0, 600);
            due(x.back(), 4);
            same(x, keptCrewe());
        }
        of(47, "TEXTS, too");
        CreweChange x = keptCrewe();
        due(x.text(), 1);
        due(x.back(), 4);
        CreweChange without = keptCrewe();
        without.trim(0);
        same(x, without);
        of(47, "many at once");
        CreweChange many = keptCrewe();
        for (Call change : changes) change.on(many);
        due(many.back(), 4);
        same(many, keptCrewe());
    }

    private static long pourNew(CreweChange x) {
        x.copy(0, 1, 0, 2, 1);
        x.pour(0, 1);
        return x.mark(0, 2, -7);
    }

    private static long planNew(CreweChange x) {
        x.clear();
        x.add(2);
        return x.add(3);
    }

    private static void backLeaves() {
        of(47, "but SHEETS, SLOTS, numbers that wait, THE TAPE stay as they are");
        Call[] changes = {y -> y.sheet(0, -1, 0), y -> y.sheet(3, 1, 7), y -> y.mark(0, 1, 9), y -> y.mark(1, 1, 9), y -> y.copy(0, 0, 0, 1, 1), y -> y.lay(0, 0, 0), y -> y.lay(3, 1, 0), y -> y.lay(3, 2, 0), y -> y.lay(3, 3, 8),
            y -> y.tell(3), y -> y.check(31), y -> y.feed(1, 2, 3), y -> y.trim(2)};
        for (Call change : changes) {
            CreweChange x = keptCrewe();
            change.on(x);
            due(x.back(), 4);
            CreweChange y = keptCrewe();
            due(y.back(), 4);
            change.on(y);
            same(x, y);
        }
    }

    private static void count() {
        of(48, "what 0 .. 10");
        refused(Edge::crewe, BAD, y -> y.count(-1), y -> y.count(11), y -> y.count(LEAST), y -> y.count(MOST));
        due(new CreweChange().count(-1), BAD);
        due(new CreweChange().count(11), BAD);
        of(48, "as many as there may be of each");
        CreweChange x = new CreweChange();
        for (int i = 0; i < 6; i++) x.stop(5);
        for (int i = 0; i < 12; i++) x.train(0, 1, 5, 5);
        for (int i = 0; i < 14; i++) text(x, "walk 1");
        for (int i = 0; i < 6; i++) x.add(0);
        for (int i = 0; i < 10; i++) x.guest(0, 0);
        x.aim(0, 5);
        x.aim(1, 2999);
        x.day(999);
        for (int i = 0; i < 60; i++) x.tell(0);
        for (int i = 0; i < 8; i++) x.feed(0, 0, 0);
        x.seed(LEAST);
        int[] all = {6, 12, 14, 6, 10, 5, 2999, 999, 60, 96, LEAST};
        for (int what = 0; what <= 10; what++) due(x.count(what), all[what]);
        of(48, "one more of each is FULL, and they stay");
        due(x.stop(5), FULL);
        due(x.train(0, 1, 5, 5), FULL);
        due(x.add(0), FULL);
        due(x.guest(0, 0), FULL);
        due(x.tell(0), FULL);
        due(x.feed(0, 0, 0), FULL);
        for (int what = 0; what <= 10; what++) due(x.count(what), all[what]);
        of(48, "to count changes nothing");
        CreweChange y = crewe();
        for (int what = -1; what <= 11; what++) y.count(what);
        same(y, crewe());
    }
}
