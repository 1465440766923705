/** The edges of term 3 and of promises 14 to 20: a test for each sentence that names one. */
public final class WaterEdgeTest {
    private static final Due due = new Due("WaterEdgeTest");
    private static final int LEAST = Integer.MIN_VALUE;
    private static final int MOST = Integer.MAX_VALUE;
    private static final int[] NO_POOLS = {-1, 1, 3, 4, 5, LEAST, MOST};
    private static final int[] NO_THINGS = {-1, 3, 4, LEAST, MOST};

    public static void main(String[] args) {
        bounds();
        measures();
        reasons();
        puts();
        minutes();
        posts();
        relief();
        watchersAtPosts();
        due.end();
    }

    private static void bounds() {
        boundsNeedAPool();
        boundsNeedAThing();
        lowIsNotBelowTheLeast();
        highIsNotAboveTheMost();
        lowIsNotAboveHigh();
        boundsAreZeroToHundredAtFirst();
        rightFromLowToHigh();
        boundsAreFromNowOn();
        boundsKeepMeasures();
        boundsAreOfOneThing();
    }

    private static void measures() {
        measureNeedsAPoolAndAThing();
        measureIsANumber();
        measureIsNotAboveThousand();
        measureIsNotBelowThousandBelow();
        measureIsCutTowardsZero();
        whatIsNotMeasuredIsNoMeasure();
        whatIsNotMeasuredLeavesTheLatest();
        eachCountsAsMeasuredAndRightAtFirst();
        eachCountsAsMeasuredInMinuteZero();
        latestMeasureCounts();
    }

    private static void reasons() {
        shutNeedsAPool();
        shutIsZeroWithoutReason();
        eachThingHasItsReason();
        measuredHundredTwentyMinutesAgo();
        eachThingIsMeasuredByItself();
        anyNumberOfThingsMeasuredTooLongAgo();
        reasonsAreToldTogether();
        poolsAreShutEachByItself();
    }

    private static void puts() {
        putNeedsAPool();
        putIsOneToTwoHundredForty();
        putIsInTheseFromThatOneOn();
        putBeyondWhatWasPutInBefore();
        putWithinWhatWasPutInBefore();
        putAgainWhenItIsOver();
        putBehindTheDaysEnd();
    }

    private static void minutes() {
        minutesNeedAPool();
        minuteCountsAsItIsAtItsEnd();
        minutesThatHaveEnded();
        minutesGrowWithinOneStep();
        eachReasonCounts();
    }

    private static void posts() {
        noSuchPost();
        noSuchWatcher();
        noSuchWatcherInThatPool();
        heStandsAtAPost();
        postIsFilledForSixtyMinutes();
        heStandsThereStill();
        everyPostIsToBeFilled();
        poolWithoutPosts();
    }

    private static void relief() {
        relievedTicketIsTold();
        relievedHasLeft();
        whoGoesOutHasLeft();
        whoStoodNowhereHasNotLeft();
        whoNeverLeftMayCome();
        newComerIsCountedAnew();
        leftOneIsLeftForEachPost();
    }

    private static void watchersAtPosts() {
        watcherIsNoneForNoPost();
        watcherIsNoneForNobody();
    }

    private static BathHouse house(int posts) {
        BathHouse x = new BathHouse();
        x.pool(0, 50, 4, posts);
        return x;
    }

    private static void step(BathHouse x, int minutes) {
        for (int left = minutes; left > 0; left -= 240) {
            x.go(Math.min(left, 240));
        }
    }

    private static void measureAll(BathHouse x) {
        for (int thing = 0; thing < 3; thing++) {
            x.measure(0, thing, 0f);
        }
    }

    /** Goes on, and lets no thing grow too old. */
    private static void stepMeasured(BathHouse x, int minutes) {
        for (int left = minutes; left > 0; left -= 100) {
            measureAll(x);
            x.go(Math.min(left, 100));
        }
        measureAll(x);
    }

    private static void boundsNeedAPool() {
        due.part("14: no such POOL");
        BathHouse x = house(0);
        for (int p : NO_POOLS) {
            due.is(x.bounds(p, 0, 0, 1), false);
        }
        due.is(x.bounds(0, 0, 0, 1), true);
    }

    private static void boundsNeedAThing() {
        due.part("14: no such THING");
        BathHouse x = house(0);
        for (int thing : NO_THINGS) {
            due.is(x.bounds(0, thing, 0, 1), false);
        }
        for (int thing = 0; thing <= 2; thing++) {
            due.is(x.bounds(0, thing, 0, 1), true);
        }
    }

    private static void lowIsNotBelowTheLeast() {
        due.part("14: numbers: LOW below -100000");
        BathHouse x = house(0);
        for (int low : new int[] {-100001, LEAST}) {
            due.is(x.bounds(0, 0, low, 0), false);
            due.is(x.bounds(0, 0, low, low), false);
        }
        due.is(x.measure(0, 0, -1f), -100);
        due.is(x.shut(0), 1);
        due.is(x.bounds(0, 0, -100000, -100000), true);
        due.is(x.measure(0, 0, -1000f), -100000);
        due.is(x.shut(0), 0);
    }

    private static void highIsNotAboveTheMost() {
        due.part("14: numbers: HIGH above 100000");
        BathHouse x = house(0);
        for (int high : new int[] {100001, MOST}) {
            due.is(x.bounds(0, 0, 0, high), false);
            due.is(x.bounds(0, 0, high, high), false);
        }
        due.is(x.measure(0, 0, 2f), 200);
        due.is(x.shut(0), 1);
        due.is(x.bounds(0, 0, 100000, 100000), true);
        due.is(x.measure(0, 0, 1000f), 100000);
        due.is(x.shut(0), 0);
    }

    private static void lowIsNotAboveHigh() {
        due.part("14: LOW above HIGH");
        BathHouse x = house(0);
        due.is(x.bounds(0, 0, 51, 50), false);
        due.is(x.bounds(0, 0, 100000, -100000), false);
        due.is(x.bounds(0, 0, MOST, LEAST), false);
        due.is(x.measure(0, 0, 0f), 0);
        due.is(x.shut(0), 0);
        due.is(x.bounds(0, 0, 50, 50), true);
        due.is(x.shut(0), 1);
        due.is(x.measure(0, 0, 0.5f), 50);
        due.is(x.shut(0), 0);
    }

    private static void boundsAreZeroToHundredAtFirst() {
        due.part("THINGS: at first 0 to 100");
        BathHouse x = house(0);
        for (int thing = 0; thing < 3; thing++) {
            due.is(x.measure(0, thing, 1f), 100);
            due.is(x.shut(0), 0);
            due.is(x.measure(0, thing, 1.0117188f), 101);
            due.is(x.shut(0), 1 << thing);
            due.is(x.measure(0, thing, 0f), 0);
            due.is(x.shut(0), 0);
            due.is(x.measure(0, thing, -0.01171875f), -1);
            due.is(x.shut(0), 1 << thing);
            x.measure(0, thing, 0.5f);
        }
    }

    private static void rightFromLowToHigh() {
        due.part("THINGS: right from its LOW to its HIGH");
        BathHouse x = house(0);
        x.bounds(0, 1, -25, 725);
        float[] floats = {-0.265625f, -0.25f, 0f, 7.25f, 7.265625f};
        int[] hundredths = {-26, -25, 0, 725, 726};
        int[] shut = {2, 0, 0, 0, 2};
        for (int i = 0; i < floats.length; i++) {
            due.is(x.measure(0, 1, floats[i]), hundredths[i]);
            due.is(x.shut(0), shut[i]);
        }
    }

    private static void boundsAreFromNowOn() {
        due.part("14: from NOW on");
        BathHouse x = house(0);
        x.measure(0, 0, 3f);
        x.go(5);
        due.is(x.bounds(0, 0, 0, 300), true);
        due.is(x.shut(0), 0);
        // What has ended stays as it was.
        due.is(x.minutes(0), 5);
        x.go(5);
        due.is(x.minutes(0), 5);
        due.is(x.bounds(0, 0, 0, 299), true);
        x.go(1);
        due.is(x.minutes(0), 6);
    }

    private static void boundsKeepMeasures() {
        due.part("14: (Measures are kept as they are.)");
        BathHouse x = house(0);
        x.measure(0, 0, 3f);
        x.bounds(0, 0, 0, 5);
        due.is(x.shut(0), 1);
        x.bounds(0, 0, 300, 300);
        due.is(x.shut(0), 0);
        x.go(119);
        due.is(x.bounds(0, 0, 299, 301), true);
        x.measure(0, 1, 0f);
        x.measure(0, 2, 0f);
        x.go(1);
        due.is(x.shut(0), 8);
    }

    private static void boundsAreOfOneThing() {
        due.part("14: of a THING of POOL p");
        BathHouse x = house(0);
        x.pool(1, 50, 4, 0);
        for (int thing = 0; thing < 3; thing++) {
            x.measure(0, thing, 0.5f);
            x.measure(1, thing, 0.5f);
        }
        x.bounds(0, 1, 51, 60);
        due.is(x.shut(0), 2);
        due.is(x.shut(1), 0);
    }

    private static void measureNeedsAPoolAndAThing() {
        due.part("15: -200001: no such POOL, THING");
        BathHouse x = house(0);
        for (int p : NO_POOLS) {
            due.is(x.measure(p, 0, 5f), -200001);
        }
        for (int thing : NO_THINGS) {
            due.is(x.measure(0, thing, 5f), -200001);
        }
        due.is(x.shut(0), 0);
    }

    private static void measureIsANumber() {
        due.part("15: one that is not a number");
        BathHouse x = house(0);
        due.is(x.measure(0, 0, Float.NaN), -200000);
        due.is(x.measure(0, 0, Float.intBitsToFloat(0xffc00001)), -200000);
        due.is(x.measure(0, 0, -0f), 0);
    }

    private static void measureIsNotAboveThousand() {
        due.part("15: or above 1000");
        BathHouse x = house(0);
        for (float v : new float[] {1000.0001f, 1001f, 21474836f, 42949672f, Float.MAX_VALUE, Float.POSITIVE_INFINITY}) {
            due.is(x.measure(0, 0, v), -200000);
        }
        due.is(x.measure(0, 0, 1000f), 100000);
        due.is(x.measure(0, 0, 999.5f), 99950);
    }

    private static void measureIsNotBelowThousandBelow() {
        due.part("15: or below -1000");
        BathHouse x = house(0);
        for (float v : new float[] {-1000.0001f, -1001f, -21474836f, -Float.MAX_VALUE, Float.NEGATIVE_INFINITY}) {
            due.is(x.measure(0, 0, v), -200000);
        }
        due.is(x.measure(0, 0, -1000f), -100000);
        due.is(x.measure(0, 0, -999.5f), -99950);
    }

    private static void measureIsCutTowardsZero() {
        due.part("15: cut towards 0");
        BathHouse x = house(0);
        float[] floats = {0.0078125f, 0.01171875f, 0.9921875f, 3.6640625f, 999.9921875f, Float.MIN_VALUE};
        int[] want = {0, 1, 99, 366, 99999, 0};
        for (int i = 0; i < floats.length; i++) {
            due.is(x.measure(0, 0, floats[i]), want[i]);
            due.is(x.measure(0, 0, -floats[i]), -want[i]);
        }
        // -0.78 hundredths come to 0, which is right.
        due.is(x.measure(0, 0, -0.0078125f), 0);
        due.is(x.shut(0), 0);
    }

    private static void whatIsNotMeasuredIsNoMeasure() {
        due.part("15: it is not measured");
        BathHouse x = house(0);
        x.measure(0, 0, 2f);
        x.go(119);
        for (float v : new float[] {Float.NaN, 2000f, -2000f}) {
            due.is(x.measure(0, 0, v), -200000);
            due.is(x.measure(0, 1, v), -200000);
        }
        due.is(x.shut(0), 1);
        x.go(1);
        x.measure(0, 1, 0f);
        x.measure(0, 2, 0f);
        due.is(x.shut(0), 9);
    }

    private static void whatIsNotMeasuredLeavesTheLatest() {
        due.part("15: the latest one is still that ahead of it");
        for (float v : new float[] {Float.NaN, 2000f, -2000f, Float.POSITIVE_INFINITY, Float.NEGATIVE_INFINITY}) {
            for (int thing = 0; thing < 3; thing++) {
                BathHouse x = house(0);
                x.measure(0, thing, 0.5f);
                due.is(x.measure(0, thing, v), -200000);
                due.is(x.shut(0), 0);
                x.bounds(0, thing, 50, 50);
                due.is(x.shut(0), 0);
                x.measure(0, thing, 0.75f);
                due.is(x.measure(0, thing, v), -200000);
                due.is(x.shut(0), 1 << thing);
            }
        }
    }

    private static void eachCountsAsMeasuredAndRightAtFirst() {
        due.part("THINGS: at first each counts as measured, and right");
        BathHouse x = house(0);
        due.is(x.shut(0), 0);
        for (int thing = 0; thing < 3; thing++) {
            x.bounds(0, thing, 500, 600);
        }
        due.is(x.shut(0), 0);
        x.go(119);
        due.is(x.shut(0), 0);
        due.is(x.minutes(0), 0);
    }

    private static void eachCountsAsMeasuredInMinuteZero() {
        due.part("THINGS: at first in MINUTE 0");
        for (int left = 0; left < 3; left++) {
            BathHouse x = house(0);
            x.go(119);
            for (int thing = 0; thing < 3; thing++) {
                if (thing != left) {
                    x.measure(0, thing, 0f);
                }
            }
            due.is(x.shut(0), 0);
            x.go(1);
            due.is(x.shut(0), 8);
            x.measure(0, left, 0f);
            due.is(x.shut(0), 0);
        }
    }

    private static void latestMeasureCounts() {
        due.part("15: it is the latest one then");
        BathHouse x = house(0);
        x.measure(0, 2, 9f);
        x.measure(0, 2, 0f);
        due.is(x.shut(0), 0);
        x.measure(0, 2, 0f);
        x.measure(0, 2, 9f);
        due.is(x.shut(0), 4);
        x.go(1);
        due.is(x.shut(0), 4);
    }

    private static void shutNeedsAPool() {
        due.part("17: no such POOL");
        BathHouse x = house(1);
        for (int p : NO_POOLS) {
            due.is(x.shut(p), -1);
        }
        due.is(x.shut(0), 32);
    }

    private static void shutIsZeroWithoutReason() {
        due.part("17: no REASON");
        BathHouse x = house(0);
        due.is(x.shut(0), 0);
        stepMeasured(x, 1439);
        due.is(x.shut(0), 0);
        due.is(x.minutes(0), 0);
    }

    private static void eachThingHasItsReason() {
        due.part("17: 1, 2, 4");
        BathHouse x = house(0);
        for (int reasons = 0; reasons < 8; reasons++) {
            for (int thing = 0; thing < 3; thing++) {
                x.measure(0, thing, (reasons >> thing & 1) == 1 ? 2f : 1f);
            }
            due.is(x.shut(0), reasons);
        }
    }

    private static void measuredHundredTwentyMinutesAgo() {
        due.part("17: 120 MINUTES ago or earlier");
        BathHouse x = house(0);
        x.go(100);
        measureAll(x);
        x.go(119);
        due.is(x.shut(0), 0);
        x.go(1);
        due.is(x.shut(0), 8);
        x.go(1);
        due.is(x.shut(0), 8);
        step(x, 1000);
        due.is(x.shut(0), 8);
        measureAll(x);
        due.is(x.shut(0), 0);
    }

    private static void eachThingIsMeasuredByItself() {
        due.part("17: a THING was measured last");
        BathHouse x = house(0);
        for (int left = 0; left < 3; left++) {
            measureAll(x);
            x.go(100);
            for (int thing = 0; thing < 3; thing++) {
                if (thing != left) {
                    x.measure(0, thing, 0f);
                }
            }
            x.go(20);
            due.is(x.shut(0), 8);
            // A measure that is not right is a measure.
            x.measure(0, left, 2f);
            due.is(x.shut(0), 1 << left);
        }
    }

    private static void anyNumberOfThingsMeasuredTooLongAgo() {
        due.part("17: 8, for one THING, two or three");
        for (int old = 0; old < 8; old++) {
            BathHouse x = house(0);
            x.go(120);
            for (int thing = 0; thing < 3; thing++) {
                if ((old >> thing & 1) == 0) {
                    x.measure(0, thing, 0f);
                }
            }
            due.is(x.shut(0), old == 0 ? 0 : 8);
        }
    }

    private static void reasonsAreToldTogether() {
        due.part("17: together");
        BathHouse x = house(1);
        due.is(x.shut(0), 32);
        x.put(0, 240);
        due.is(x.shut(0), 48);
        x.measure(0, 0, 2f);
        due.is(x.shut(0), 49);
        x.measure(0, 1, 2f);
        due.is(x.shut(0), 51);
        x.measure(0, 2, 2f);
        due.is(x.shut(0), 55);
        x.go(120);
        due.is(x.shut(0), 63);
        x.go(120);
        due.is(x.shut(0), 47);
    }

    private static void poolsAreShutEachByItself() {
        due.part("17: POOL p");
        BathHouse x = house(0);
        x.pool(1, 50, 4, 0);
        x.pool(2, 50, 4, 1);
        x.put(0, 5);
        x.measure(1, 1, 2f);
        due.is(x.shut(0), 16);
        due.is(x.shut(1), 2);
        due.is(x.shut(2), 32);
        x.go(10);
        due.is(x.minutes(0), 5);
        due.is(x.minutes(1), 10);
        due.is(x.minutes(2), 10);
    }

    private static void putNeedsAPool() {
        due.part("16: no such POOL");
        BathHouse x = house(0);
        for (int p : NO_POOLS) {
            due.is(x.put(p, 5), false);
        }
        due.is(x.shut(0), 0);
    }

    private static void putIsOneToTwoHundredForty() {
        due.part("16: n MINUTES (1 to 240)");
        BathHouse x = house(0);
        for (int n : new int[] {0, -1, 241, LEAST, MOST}) {
            due.is(x.put(0, n), false);
        }
        due.is(x.shut(0), 0);
        due.is(x.put(0, 1), true);
        due.is(x.shut(0), 16);
        x.go(1);
        due.is(x.shut(0), 0);
        due.is(x.put(0, 240), true);
        stepMeasured(x, 239);
        due.is(x.shut(0), 16);
        x.go(1);
        due.is(x.shut(0), 0);
    }

    private static void putIsInTheseFromThatOneOn() {
        due.part("17: 16: in these from that one on");
        BathHouse x = house(0);
        x.go(10);
        due.is(x.shut(0), 0);
        x.put(0, 3);
        for (int i = 0; i < 3; i++) {
            due.is(x.shut(0), 16);
            x.go(1);
        }
        due.is(x.shut(0), 0);
        due.is(x.minutes(0), 3);
    }

    private static void putBeyondWhatWasPutInBefore() {
        due.part("16: beyond what was put in before");
        BathHouse x = house(0);
        x.put(0, 5);
        x.go(4);
        due.is(x.put(0, 2), true);
        x.go(1);
        due.is(x.shut(0), 16);
        x.go(1);
        due.is(x.shut(0), 0);
    }

    private static void putWithinWhatWasPutInBefore() {
        due.part("16: or within it");
        for (int later = 1; later <= 5; later++) {
            BathHouse x = house(0);
            x.put(0, 10);
            x.go(5);
            due.is(x.put(0, later), true);
            for (int minute = 5; minute < 10; minute++) {
                due.is(x.shut(0), 16);
                x.go(1);
            }
            due.is(x.shut(0), 0);
            due.is(x.minutes(0), 10);
        }
    }

    private static void putAgainWhenItIsOver() {
        due.part("16: put in again when it is over");
        BathHouse x = house(0);
        x.put(0, 2);
        x.go(4);
        due.is(x.put(0, 2), true);
        due.is(x.shut(0), 16);
        x.go(2);
        due.is(x.shut(0), 0);
        due.is(x.minutes(0), 4);
    }

    private static void putBehindTheDaysEnd() {
        due.part("16: beyond the day");
        BathHouse x = house(0);
        stepMeasured(x, 1439);
        due.is(x.put(0, 240), true);
        due.is(x.shut(0), 16);
        due.is(x.minutes(0), 0);
    }

    private static void minutesNeedAPool() {
        due.part("18: no such POOL");
        BathHouse x = house(1);
        x.go(1);
        for (int p : NO_POOLS) {
            due.is(x.minutes(p), -1);
        }
        due.is(x.minutes(0), 1);
    }

    private static void minuteCountsAsItIsAtItsEnd() {
        due.part("SHUT in a MINUTE (as it is at its end)");
        BathHouse x = house(0);
        x.measure(0, 0, 2f);
        due.is(x.shut(0), 1);
        x.measure(0, 0, 1f);
        x.go(1);
        due.is(x.minutes(0), 0);
        x.measure(0, 0, 1f);
        x.measure(0, 0, 2f);
        x.go(1);
        due.is(x.minutes(0), 1);
        x.measure(0, 0, 1f);
        due.is(x.minutes(0), 1);
        x.go(1);
        due.is(x.minutes(0), 1);
    }

    private static void minutesThatHaveEnded() {
        due.part("18: MINUTES that have ended");
        BathHouse x = house(1);
        due.is(x.minutes(0), 0);
        x.go(1);
        due.is(x.minutes(0), 1);
        step(x, 1438);
        due.is(x.minutes(0), 1439);
        x.go(1);
        due.is(x.minutes(0), 1439);
    }

    private static void minutesGrowWithinOneStep() {
        due.part("18: in how many MINUTES");
        BathHouse x = house(1);
        x.ticket(0, 5, 0, false);
        x.in(0);
        x.post(0, 0, 0);
        x.go(70);
        // Filled in 0 to 59, not in 60 to 69.
        due.is(x.minutes(0), 10);
        BathHouse y = house(0);
        y.go(130);
        due.is(y.minutes(0), 10);
        y.put(0, 240);
        y.go(10);
        due.is(y.minutes(0), 20);
    }

    private static void eachReasonCounts() {
        due.part("18: by any REASON, and once by many");
        for (int reason = 0; reason < 5; reason++) {
            BathHouse x = house(reason == 4 ? 1 : 0);
            if (reason < 3) {
                x.measure(0, reason, 2f);
            } else {
                x.put(0, 3);
            }
            x.go(3);
            due.is(x.minutes(0), 3);
        }
    }

    /** Tickets 0 to 3: watchers who are in pool 0, which has so many posts. */
    private static BathHouse watched(int posts) {
        BathHouse x = house(posts);
        for (int t = 0; t < 4; t++) {
            x.ticket(0, 5, 0, false);
            x.in(t);
            if (t == 2) {
                x.go(1);
            }
        }
        return x;
    }

    private static void noSuchPost() {
        due.part("19: -2: no such POST");
        BathHouse x = watched(2);
        for (int k : new int[] {-1, 2, 3, LEAST, MOST}) {
            due.is(x.post(0, k, 0), -2);
        }
        for (int p : NO_POOLS) {
            due.is(x.post(p, 0, 0), -2);
        }
        due.is(x.post(0, 0, 0), -1);
        due.is(x.post(0, 1, 1), -1);
        BathHouse none = watched(0);
        due.is(none.post(0, 0, 0), -2);
        BathHouse three = watched(3);
        due.is(three.post(0, 2, 0), -1);
        due.is(three.post(0, 3, 1), -2);
    }

    private static void noSuchWatcher() {
        due.part("19: -2: no such WATCHER");
        BathHouse x = house(1);
        x.club(0, 1, 0, 10, 0);
        x.club(0, 2, 0, 10, 1);
        int[] a = {0, 15, 0, 1, 0};
        x.ticket(0, 5, 0, false);
        x.in(0);
        x.post(0, 0, 0);
        for (int kind = 0; kind <= 4; kind++) {
            x.go(1);
            x.ticket(0, kind, a[kind], true);
            due.is(x.in(1 + kind), 0);
            due.is(x.post(0, 0, 1 + kind), -2);
        }
        for (int t : new int[] {-1, 6, 199, 200, LEAST, MOST}) {
            due.is(x.post(0, 0, t), -2);
        }
        due.is(x.watcher(0, 0), 0);
    }

    private static void noSuchWatcherInThatPool() {
        due.part("19: -2: no such WATCHER in that POOL");
        BathHouse x = watched(1);
        BathHouse y = house(1);
        y.pool(1, 50, 4, 1);
        y.ticket(1, 5, 0, false);
        y.ticket(0, 5, 0, false);
        due.is(y.post(1, 0, 0), -2);
        y.in(0);
        due.is(y.post(0, 0, 0), -2);
        due.is(y.post(0, 0, 1), -2);
        due.is(y.post(1, 0, 0), -1);
        x.out(3);
        due.is(x.post(0, 0, 3), -2);
        x.in(3);
        due.is(x.post(0, 0, 3), -1);
    }

    private static void heStandsAtAPost() {
        due.part("19: -2: he stands at a POST");
        BathHouse x = watched(2);
        due.is(x.post(0, 0, 0), -1);
        due.is(x.post(0, 0, 0), -2);
        due.is(x.post(0, 1, 0), -2);
        x.post(0, 1, 1);
        due.is(x.post(0, 1, 0), -2);
        due.is(x.post(0, 0, 1), -2);
        due.is(x.watcher(0, 0), 0);
        due.is(x.watcher(0, 1), 1);
        // Coming again would not make his 60 MINUTES longer.
        x.go(30);
        due.is(x.post(0, 0, 0), -2);
        x.go(29);
        due.is(x.count(0, 6), 2);
        x.go(1);
        due.is(x.count(0, 6), 0);
    }

    private static void postIsFilledForSixtyMinutes() {
        due.part("POST: for at most 60 MINUTES (that in which he came to it and 59 behind)");
        BathHouse x = watched(1);
        x.go(6);
        due.is(x.shut(0), 32);
        due.is(x.post(0, 0, 0), -1);
        due.is(x.shut(0), 0);
        x.go(59);
        due.is(x.shut(0), 0);
        due.is(x.count(0, 6), 1);
        x.go(1);
        due.is(x.shut(0), 32);
        due.is(x.count(0, 6), 0);
        x.go(5);
        due.is(x.minutes(0), 12);
    }

    private static void heStandsThereStill() {
        due.part("POST: he stands there till he is relieved or goes out");
        BathHouse x = watched(2);
        x.post(0, 0, 0);
        step(x, 1000);
        due.is(x.watcher(0, 0), 0);
        due.is(x.count(0, 6), 0);
        due.is(x.post(0, 0, 0), -2);
        due.is(x.post(0, 1, 0), -2);
        due.is(x.post(0, 0, 1), 0);
        due.is(x.count(0, 6), 1);
        // He left it only now.
        due.is(x.post(0, 1, 0), -2);
        x.go(20);
        due.is(x.post(0, 1, 0), -1);
    }

    private static void everyPostIsToBeFilled() {
        due.part("17: 32: a POST is not filled");
        BathHouse x = watched(3);
        int[] filled = {0, 1, 2, 3};
        for (int k = 0; k < 3; k++) {
            due.is(x.count(0, 6), filled[k]);
            due.is(x.shut(0), 32);
            x.post(0, k, k);
        }
        due.is(x.count(0, 6), 3);
        due.is(x.shut(0), 0);
        x.out(1);
        due.is(x.count(0, 6), 2);
        due.is(x.shut(0), 32);
    }

    private static void poolWithoutPosts() {
        due.part("17: POSTS 0");
        BathHouse x = house(0);
        due.is(x.shut(0), 0);
        due.is(x.count(0, 6), 0);
        due.is(x.watcher(0, 0), -1);
    }

    private static void relievedTicketIsTold() {
        due.part("19: who stood there is relieved: that TICKET, or NONE");
        BathHouse x = watched(2);
        due.is(x.post(0, 0, 3), -1);
        due.is(x.post(0, 0, 2), 3);
        due.is(x.post(0, 0, 0), 2);
        due.is(x.watcher(0, 0), 0);
        due.is(x.watcher(0, 1), -1);
        x.out(0);
        due.is(x.post(0, 0, 1), -1);
    }

    private static void relievedHasLeft() {
        due.part("19: -2: he LEFT one fewer than 20 MINUTES ago");
        BathHouse x = watched(2);
        x.post(0, 0, 0);
        x.go(10);
        due.is(x.post(0, 0, 1), 0);
        due.is(x.post(0, 0, 0), -2);
        due.is(x.post(0, 1, 0), -2);
        x.go(19);
        due.is(x.post(0, 1, 0), -2);
        due.is(x.post(0, 0, 0), -2);
        x.go(1);
        due.is(x.post(0, 1, 0), -1);
    }

    private static void whoGoesOutHasLeft() {
        due.part("POST: or goes out; then he has LEFT a POST");
        BathHouse x = watched(1);
        x.post(0, 0, 0);
        x.go(5);
        x.out(0);
        due.is(x.watcher(0, 0), -1);
        due.is(x.count(0, 6), 0);
        x.in(0);
        due.is(x.post(0, 0, 0), -2);
        x.go(19);
        due.is(x.post(0, 0, 0), -2);
        x.go(1);
        due.is(x.post(0, 0, 0), -1);
    }

    private static void whoStoodNowhereHasNotLeft() {
        due.part("LEFT a POST: who stood at none has left none");
        BathHouse x = watched(1);
        x.out(0);
        x.in(0);
        due.is(x.post(0, 0, 0), -1);
        x.go(1);
        due.is(x.post(0, 0, 1), 0);
        x.go(19);
        x.out(0);
        x.in(0);
        x.go(1);
        // It is 20 MINUTES since he left one, though he went out a MINUTE ago.
        due.is(x.post(0, 0, 0), 1);
    }

    private static void whoNeverLeftMayCome() {
        due.part("LEFT a POST: nobody did at first");
        BathHouse x = house(1);
        x.ticket(0, 5, 0, false);
        x.in(0);
        due.is(x.post(0, 0, 0), -1);
    }

    private static void newComerIsCountedAnew() {
        due.part("POST: that in which he came to it");
        BathHouse x = watched(1);
        x.post(0, 0, 0);
        x.go(59);
        due.is(x.post(0, 0, 1), 0);
        x.go(59);
        due.is(x.count(0, 6), 1);
        x.go(1);
        due.is(x.count(0, 6), 0);
        due.is(x.post(0, 0, 0), 1);
        due.is(x.count(0, 6), 1);
    }

    private static void leftOneIsLeftForEachPost() {
        due.part("19: he LEFT one: of any POST, the latest");
        BathHouse x = watched(3);
        x.post(0, 0, 0);
        x.post(0, 0, 1);
        x.go(20);
        due.is(x.post(0, 1, 0), -1);
        x.post(0, 1, 2);
        due.is(x.post(0, 2, 0), -2);
        x.go(19);
        due.is(x.post(0, 2, 0), -2);
        x.go(1);
        due.is(x.post(0, 2, 0), -1);
    }

    private static void watcherIsNoneForNoPost() {
        due.part("20: no such");
        BathHouse x = watched(1);
        x.post(0, 0, 0);
        for (int k : new int[] {-1, 1, 2, 3, LEAST, MOST}) {
            due.is(x.watcher(0, k), -1);
        }
        for (int p : NO_POOLS) {
            due.is(x.watcher(p, 0), -1);
        }
        due.is(x.watcher(0, 0), 0);
    }

    private static void watcherIsNoneForNobody() {
        due.part("20: nobody");
        BathHouse x = watched(2);
        due.is(x.watcher(0, 0), -1);
        x.post(0, 0, 2);
        due.is(x.watcher(0, 0), 2);
        due.is(x.watcher(0, 1), -1);
        x.out(2);
        due.is(x.watcher(0, 0), -1);
    }
}
