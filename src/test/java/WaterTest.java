/** Promises 14 to 20: bounds, measures, what was put in, why a pool is shut, and the posts. */
public final class WaterTest {
    private static final Due due = new Due("WaterTest");

    public static void main(String[] args) {
        boundsTold();
        boundsFromNowOn();
        unmeasuredIsRight();
        measures();
        measuresRefused();
        measuresLatest();
        stale();
        puts();
        putsTogether();
        shutTold();
        minutesCounted();
        posts();
        postsRefused();
        postsTire();
        postsLeft();
        due.end();
    }

    private static BathHouse house(int posts) {
        BathHouse x = new BathHouse();
        x.pool(0, 50, 4, posts);
        return x;
    }

    private static void boundsTold() {
        due.part("promise 14");
        BathHouse x = house(0);
        due.is(x.bounds(0, 0, -100000, 100000), true);
        due.is(x.bounds(0, 0, 5, 5), true);
        due.is(x.bounds(0, 0, 6, 5), false);
        due.is(x.bounds(0, 0, -100001, 5), false);
        due.is(x.bounds(0, 0, 5, 100001), false);
        due.is(x.bounds(0, 0, Integer.MIN_VALUE, Integer.MAX_VALUE), false);
        due.is(x.bounds(0, 3, 0, 5), false);
        due.is(x.bounds(0, -1, 0, 5), false);
        due.is(x.bounds(1, 0, 0, 5), false);
        due.is(x.bounds(-1, 0, 0, 5), false);
        due.is(x.bounds(4, 0, 0, 5), false);
        due.is(x.measure(0, 0, 0.0625f), 6);
        due.is(x.shut(0), 1);
        due.is(x.measure(0, 0, 0.05f), 5);
        due.is(x.shut(0), 0);
        due.is(x.measure(0, 0, 0.045f), 4);
        due.is(x.shut(0), 1);
    }

    private static void boundsFromNowOn() {
        due.part("promise 14: from now on");
        BathHouse x = house(0);
        due.is(x.measure(0, 2, 3f), 300);
        due.is(x.shut(0), 4);
        x.go(10);
        due.is(x.bounds(0, 2, 0, 299), true);
        due.is(x.shut(0), 4);
        due.is(x.bounds(0, 2, 300, 300), true);
        due.is(x.shut(0), 0);
        due.is(x.minutes(0), 10);
        x.go(10);
        due.is(x.minutes(0), 10);
        due.is(x.bounds(0, 2, 301, 400), true);
        due.is(x.shut(0), 4);
        // The measure is kept as it is, its minute too.
        due.is(x.bounds(0, 2, 300, 300), true);
        due.is(x.measure(0, 0, 0f), 0);
        due.is(x.measure(0, 1, 0f), 0);
        x.go(99);
        due.is(x.shut(0), 0);
        x.go(1);
        due.is(x.shut(0), 8);
    }

    private static void unmeasuredIsRight() {
        due.part("promise 14: ahead of any measure");
        BathHouse x = house(0);
        due.is(x.shut(0), 0);
        due.is(x.bounds(0, 1, 500, 600), true);
        due.is(x.shut(0), 0);
        due.is(x.measure(0, 1, 2000f), -200000);
        due.is(x.shut(0), 0);
        due.is(x.measure(0, 1, 0f), 0);
        due.is(x.shut(0), 2);
    }

    private static void measures() {
        due.part("promise 15");
        BathHouse x = house(0);
        due.is(x.measure(0, 0, 0f), 0);
        due.is(x.measure(0, 0, -0f), 0);
        due.is(x.measure(0, 0, 1.5f), 150);
        due.is(x.measure(0, 0, 1.509f), 150);
        due.is(x.measure(0, 0, -1.509f), -150);
        due.is(x.measure(0, 0, -0.009f), 0);
        due.is(x.shut(0), 0);
        due.is(x.measure(0, 0, 0.009f), 0);
        due.is(x.measure(0, 0, 7.25f), 725);
        due.is(x.measure(0, 0, 1000f), 100000);
        due.is(x.measure(0, 0, -1000f), -100000);
        due.is(x.measure(0, 0, 999.99f), 99999);
        due.is(x.measure(0, 0, Float.MIN_VALUE), 0);
        // The float times 100 is a float: 0.29f * 100 is 29, though 0.29f itself is a little less.
        due.is(x.measure(0, 0, 0.29f), 29);
        due.is(x.measure(0, 0, 7.2f), 720);
    }

    private static void measuresRefused() {
        due.part("promise 15: not measured");
        BathHouse x = house(0);
        due.is(x.measure(0, 0, 2f), 200);
        float[] wrong = {Float.NaN, 1000.01f, -1000.01f, Float.POSITIVE_INFINITY, Float.NEGATIVE_INFINITY,
            Float.MAX_VALUE, Math.nextUp(1000f), Math.nextDown(-1000f)};
        for (float v : wrong) {
            due.is(x.measure(0, 0, v), -200000);
            due.is(x.measure(0, 3, v), -200001);
            due.is(x.measure(1, 0, v), -200001);
        }
        due.is(x.shut(0), 1);
        due.is(x.measure(0, 3, 0f), -200001);
        due.is(x.measure(0, -1, 0f), -200001);
        due.is(x.measure(1, 0, 0f), -200001);
        due.is(x.measure(-1, 0, 0f), -200001);
        due.is(x.measure(4, 0, 0f), -200001);
        due.is(x.shut(0), 1);
    }

    private static void measuresLatest() {
        due.part("promises 15 and 17: the latest measures");
        BathHouse x = house(0);
        x.pool(1, 50, 4, 0);
        due.is(x.measure(0, 0, 1.01f), 101);
        due.is(x.shut(0), 1);
        due.is(x.measure(0, 1, -1f), -100);
        due.is(x.shut(0), 3);
        due.is(x.measure(0, 2, 9f), 900);
        due.is(x.shut(0), 7);
        due.is(x.shut(1), 0);
        due.is(x.measure(0, 0, 1f), 100);
        due.is(x.shut(0), 6);
        due.is(x.measure(0, 1, 0f), 0);
        due.is(x.measure(0, 2, 0.5f), 50);
        due.is(x.shut(0), 0);
    }

    private static void stale() {
        due.part("promise 17: measured too long ago");
        BathHouse x = house(0);
        x.go(1);
        due.is(x.measure(0, 0, 0f), 0);
        due.is(x.measure(0, 1, 0f), 0);
        x.go(118);
        due.is(x.shut(0), 0);
        x.go(1);
        due.is(x.shut(0), 8);
        due.is(x.measure(0, 2, Float.NaN), -200000);
        due.is(x.shut(0), 8);
        due.is(x.measure(0, 2, 0f), 0);
        due.is(x.shut(0), 0);
        x.go(1);
        due.is(x.shut(0), 8);
        due.is(x.measure(0, 0, 2f), 200);
        due.is(x.shut(0), 9);
        due.is(x.measure(0, 1, 0f), 0);
        due.is(x.shut(0), 1);
        due.is(x.minutes(0), 0);
    }

    private static void puts() {
        due.part("promise 16");
        BathHouse x = house(0);
        due.is(x.put(0, 0), false);
        due.is(x.put(0, -1), false);
        due.is(x.put(0, 241), false);
        due.is(x.put(0, Integer.MAX_VALUE), false);
        due.is(x.put(1, 5), false);
        due.is(x.put(-1, 5), false);
        due.is(x.put(4, 5), false);
        due.is(x.shut(0), 0);
        due.is(x.put(0, 1), true);
        due.is(x.shut(0), 16);
        x.go(1);
        due.is(x.shut(0), 0);
        due.is(x.minutes(0), 1);
        due.is(x.put(0, 240), true);
        for (int i = 1; i <= 239; i++) {
            if (i % 60 == 0) {
                x.measure(0, 0, 0f);
                x.measure(0, 1, 0f);
                x.measure(0, 2, 0f);
            }
            x.go(1);
        }
        due.is(x.shut(0), 16);
        x.go(1);
        due.is(x.shut(0), 0);
        due.is(x.minutes(0), 241);
    }

    private static void putsTogether() {
        due.part("promise 16: beyond and within");
        BathHouse x = house(0);
        due.is(x.put(0, 10), true);
        x.go(5);
        due.is(x.put(0, 3), true);
        x.go(4);
        due.is(x.shut(0), 16);
        due.is(x.put(0, 5), true);
        x.go(4);
        due.is(x.shut(0), 16);
        x.go(1);
        due.is(x.shut(0), 0);
        due.is(x.minutes(0), 14);
    }

    private static void shutTold() {
        due.part("promise 17");
        BathHouse x = house(1);
        due.is(x.shut(-1), -1);
        due.is(x.shut(1), -1);
        due.is(x.shut(4), -1);
        due.is(x.shut(0), 32);
        x.put(0, 240);
        x.measure(0, 0, -1f);
        x.measure(0, 1, -1f);
        x.measure(0, 2, -1f);
        due.is(x.shut(0), 55);
        x.go(120);
        due.is(x.shut(0), 63);
    }

    private static void minutesCounted() {
        due.part("promise 18");
        BathHouse x = house(0);
        x.pool(1, 50, 4, 1);
        due.is(x.minutes(-1), -1);
        due.is(x.minutes(2), -1);
        due.is(x.minutes(4), -1);
        due.is(x.minutes(0), 0);
        due.is(x.measure(0, 0, 5f), 500);
        // The minute counts as it is at its end.
        due.is(x.measure(0, 0, 0f), 0);
        x.go(1);
        due.is(x.minutes(0), 0);
        due.is(x.minutes(1), 1);
        due.is(x.measure(0, 0, 5f), 500);
        due.is(x.minutes(0), 0);
        x.go(3);
        due.is(x.minutes(0), 3);
        due.is(x.measure(0, 0, 0f), 0);
        // Things 1 and 2 grow stale at 120, within one step.
        x.go(119);
        due.is(x.minutes(0), 6);
        due.is(x.minutes(1), 123);
    }

    private static BathHouse watched() {
        BathHouse x = house(2);
        x.pool(1, 50, 4, 3);
        x.ticket(0, 5, 0, false);
        x.ticket(0, 5, 0, false);
        x.ticket(0, 5, 0, false);
        x.ticket(1, 5, 0, false);
        x.ticket(1, 0, 0, false);
        for (int t = 0; t < 4; t++) {
            x.in(t);
        }
        return x;
    }

    private static void posts() {
        due.part("promises 19 and 20");
        BathHouse x = watched();
        due.is(x.watcher(0, 0), -1);
        due.is(x.post(0, 0, 1), -1);
        due.is(x.watcher(0, 0), 1);
        due.is(x.watcher(0, 1), -1);
        due.is(x.watcher(0, 2), -1);
        due.is(x.watcher(0, -1), -1);
        due.is(x.watcher(2, 0), -1);
        due.is(x.watcher(-1, 0), -1);
        due.is(x.watcher(4, 0), -1);
        due.is(x.shut(0), 32);
        due.is(x.post(0, 1, 0), -1);
        due.is(x.shut(0), 0);
        due.is(x.post(0, 0, 2), 1);
        due.is(x.watcher(0, 0), 2);
        due.is(x.watcher(0, 1), 0);
        due.is(x.count(0, 6), 2);
        due.is(x.post(1, 2, 3), -1);
        due.is(x.watcher(1, 2), 3);
        due.is(x.count(1, 6), 1);
        due.is(x.shut(1), 32);
    }

    private static void postsRefused() {
        due.part("promise 19: refused");
        BathHouse x = watched();
        due.is(x.post(0, 2, 0), -2);
        due.is(x.post(0, -1, 0), -2);
        due.is(x.post(2, 0, 0), -2);
        due.is(x.post(-1, 0, 0), -2);
        due.is(x.post(4, 0, 0), -2);
        due.is(x.post(0, 0, -1), -2);
        due.is(x.post(0, 0, 5), -2);
        due.is(x.post(0, 0, 200), -2);
        due.is(x.post(0, 0, 3), -2);
        due.is(x.post(1, 0, 0), -2);
        due.is(x.post(1, 0, 4), -2);
        due.is(x.watcher(0, 0), -1);
        due.is(x.post(0, 0, 0), -1);
        due.is(x.post(0, 0, 0), -2);
        due.is(x.post(0, 1, 0), -2);
        due.is(x.out(1), 0);
        due.is(x.post(0, 0, 1), -2);
        due.is(x.watcher(0, 0), 0);
        x.go(1);
        due.is(x.in(1), 0);
        due.is(x.post(0, 0, 1), 0);
    }

    private static void postsTire() {
        due.part("promise 19: at most 60 minutes");
        BathHouse x = watched();
        x.go(10);
        due.is(x.post(0, 0, 0), -1);
        due.is(x.post(0, 1, 1), -1);
        x.go(59);
        due.is(x.count(0, 6), 2);
        due.is(x.shut(0), 0);
        x.go(1);
        due.is(x.count(0, 6), 0);
        due.is(x.shut(0), 32);
        // He stands there still, and that is not to have left it.
        due.is(x.watcher(0, 0), 0);
        due.is(x.post(0, 1, 0), -2);
        due.is(x.minutes(0), 10);
        x.go(40);
        due.is(x.post(0, 0, 2), 0);
        due.is(x.count(0, 6), 1);
        due.is(x.post(0, 1, 0), -2);
        x.go(19);
        due.is(x.post(0, 1, 0), -2);
        x.go(1);
        due.is(x.post(0, 1, 0), 1);
        due.is(x.count(0, 6), 2);
    }

    private static void postsLeft() {
        due.part("promise 19: left by going out");
        BathHouse x = watched();
        due.is(x.post(0, 0, 0), -1);
        x.go(5);
        due.is(x.out(0), 0);
        due.is(x.watcher(0, 0), -1);
        due.is(x.shut(0), 32);
        due.is(x.in(0), 0);
        due.is(x.post(0, 0, 0), -2);
        x.go(10);
        // To go out again is not to leave a post again.
        due.is(x.out(0), 0);
        due.is(x.in(0), 0);
        x.go(9);
        due.is(x.post(0, 0, 0), -2);
        x.go(1);
        due.is(x.post(0, 0, 0), -1);
        due.is(x.post(0, 1, 1), -1);
        due.is(x.minutes(0), 25);
    }
}
