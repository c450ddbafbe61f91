/** Promises 10 to 16 and 19: plan, stage, take, why, told, offset, tear, green. */
public final class PlansTest {
    public static void main(String[] args) {
        plan();
        stage();
        takeInOrder();
        leastGreen();
        alwaysGreen();
        clash();
        clashRoundTheCycle();
        takeInPlace();
        told();
        betweens();
        offset();
        tear();
        green();
        Due.end();
    }

    private static void plan() {
        GreenDesk desk = Towns.quiet(1);
        Due.due("10 cycle 19", desk.plan(0, 19), false);
        Due.due("10 cycle 91", desk.plan(0, 91), false);
        Due.due("10 junction 1", desk.plan(1, 30), false);
        Due.due("10 junction -1", desk.plan(-1, 30), false);
        Due.due("10 none is begun", desk.stage(0, 1, 5), GreenDesk.NONE);
        Due.due("10 cycle 20", desk.plan(0, 20), true);
        desk.stage(0, 1, 5);
        Due.due("10 refused, doing nothing", desk.plan(0, 19), false);
        Due.due("10 the stage stays", desk.green(0, 0), 5);
        Due.due("10 in place of one", desk.plan(0, 90), true);
        Due.due("10 the stage is gone", desk.green(0, 0), GreenDesk.NONE);
        Due.due("10 the cycle is another", desk.take(0, 89), 2);
    }

    private static void stage() {
        GreenDesk desk = Towns.quiet(2);
        desk.against(0, 0, 1, 2, 2);
        Due.due("11 none is begun", desk.stage(0, 1, 10), GreenDesk.NONE);
        desk.plan(0, 60);
        Due.due("11 no set", desk.stage(0, 3, 10), GreenDesk.NONE);
        Due.due("11 empty", desk.stage(0, 0, 10), GreenDesk.NONE);
        Due.due("11 no such stream", desk.stage(0, 4, 10), GreenDesk.NONE);
        Due.due("11 below 0", desk.stage(0, -1, 10), GreenDesk.NONE);
        Due.due("11 green -1", desk.stage(0, 1, -1), GreenDesk.NONE);
        Due.due("11 green 91", desk.stage(0, 1, 91), GreenDesk.NONE);
        Due.due("11 junction 1", desk.stage(1, 1, 10), GreenDesk.NONE);
        Due.due("11 green 0", desk.stage(0, 1, 0), 0);
        Due.due("11 green 90", desk.stage(0, 2, 90), 1);
        Due.due("11 the same again", desk.stage(0, 2, 1), 2);
        Due.due("11 the fourth", desk.stage(0, 1, 1), 3);
        Due.due("11 a fifth", desk.stage(0, 1, 1), GreenDesk.NONE);
        Due.due("11 the four stand", desk.green(0, 3), 1);
    }

    private static void takeInOrder() {
        GreenDesk desk = Towns.quiet(2);
        desk.against(0, 0, 1, 3, 4);
        Due.due("12 none is begun", desk.take(0, 0), 1);
        Due.due("12 junction 1", desk.take(1, 0), 1);
        desk.plan(0, 30);
        Due.due("12 offset -1", desk.take(0, -1), 1);
        Due.due("12 offset 30", desk.take(0, 30), 1);
        Due.due("12 no stage", desk.take(0, 29), 2);
        desk.stage(0, 1, 0);
        Due.due("12 one stage", desk.take(0, 0), 2);
        desk.stage(0, 2, 0);
        Due.due("12 a green below 1", desk.take(0, 0), 3);
        desk.plan(0, 30);
        desk.stage(0, 1, 3);
        desk.stage(0, 2, 19);
        Due.due("12 too short a sum", desk.take(0, 0), 4);
        Due.due("12 it stays begun", desk.green(0, 1), 19);
        desk.plan(0, 30);
        desk.stage(0, 1, 12);
        desk.stage(0, 2, 12);
        Due.due("12 too long a sum", desk.take(0, 0), 4);
        Due.due("13 without", desk.why(0), GreenDesk.NONE);
        desk.plan(0, 30);
        desk.stage(0, 1, 3);
        desk.stage(0, 2, 20);
        Due.due("12 least", desk.take(0, 0), 5);
        Due.due("12 nothing is taken", desk.told(0, 0), GreenDesk.NONE);
        desk.plan(0, 30);
        desk.stage(0, 1, 4);
        desk.stage(0, 2, 19);
        Due.due("12 taken", desk.take(0, 29), 0);
        Due.due("12 none is begun now", desk.take(0, 0), 1);
        Due.due("12 none is begun now", desk.green(0, 0), GreenDesk.NONE);
    }

    private static void leastGreen() {
        GreenDesk desk = new GreenDesk();
        desk.junction();
        desk.stream(0, 0, 0, 600, 10);
        desk.stream(0, 0, 0, 600, 4);
        desk.stream(0, 2, 0, 600, 4);
        desk.plan(0, 20);
        desk.stage(0, 1, 5);
        desk.stage(0, 4 + 2, 10);
        desk.stage(0, 1, 5);
        Due.due("12 round the cycle", desk.take(0, 7), 0);
        desk.plan(0, 20);
        desk.stage(0, 1, 5);
        desk.stage(0, 4 + 2, 11);
        desk.stage(0, 1, 4);
        Due.due("12 round, one too few", desk.take(0, 7), 5);
        Due.due("13 it begins at", desk.why(0), 16);
        Due.due("13 the stream", desk.why(1), 0);
        Due.due("13 no other", desk.why(2), GreenDesk.NONE);
        Due.due("13 others", desk.why(3), GreenDesk.NONE);
        Due.due("13 others", desk.why(-1), GreenDesk.NONE);
        desk.plan(0, 20);
        desk.stage(0, 1, 14);
        desk.stage(0, 4 + 2, 3);
        desk.stage(0, 1, 3);
        Due.due("12 two at one second", desk.take(0, 0), 5);
        Due.due("13 it begins at", desk.why(0), 14);
        Due.due("13 the least stream", desk.why(1), 1);
        desk.plan(0, 20);
        desk.stage(0, 4, 7);
        desk.stage(0, 2, 3);
        desk.stage(0, 1, 10);
        Due.due("12 two, one behind the other", desk.take(0, 0), 5);
        Due.due("13 the first second", desk.why(0), 0);
        Due.due("13 its stream", desk.why(1), 2);
        desk.plan(0, 20);
        desk.stage(0, 1, 10);
        desk.stage(0, 2, 10);
        Due.due("12 just so many", desk.take(0, 0), 0);
        Due.due("13 stays behind one taken", desk.why(1), 2);
    }

    private static void alwaysGreen() {
        GreenDesk desk = new GreenDesk();
        desk.junction();
        desk.stream(0, 0, 0, 600, 30);
        desk.stream(0, 0, 0, 600, 4);
        desk.plan(0, 20);
        desk.stage(0, 1, 10);
        desk.stage(0, 3, 10);
        Due.due("12 always green has its least", desk.take(0, 0), 0);
        desk.plan(0, 20);
        desk.stage(0, 1, 19);
        desk.stage(0, 2, 1);
        Due.due("12 nearly always hasn't", desk.take(0, 0), 5);
        Due.due("13 its beginning", desk.why(0), 0);
    }

    /** From 0 to 2 it takes 9 seconds, more than the stage between them has. */
    private static void clash() {
        GreenDesk desk = Towns.quiet(4);
        desk.against(0, 0, 2, 9, 1);
        desk.against(0, 1, 2, 1, 1);
        desk.plan(0, 30);
        desk.stage(0, 1 + 8, 10);
        desk.stage(0, 2 + 8, 5);
        desk.stage(0, 4 + 8, 13);
        Due.due("12 between of 1 and 1", desk.take(0, 0), 6);
        Due.due("13 the second of j", desk.why(0), 16);
        Due.due("13 i", desk.why(1), 0);
        Due.due("13 j", desk.why(2), 2);
        desk.plan(0, 30);
        desk.stage(0, 1 + 8, 10);
        desk.stage(0, 2 + 8, 8);
        desk.stage(0, 4 + 8, 10);
        Due.due("12 just so many seconds", desk.take(0, 0), 0);
        desk.plan(0, 30);
        desk.stage(0, 1 + 8, 11);
        desk.stage(0, 2 + 8, 7);
        desk.stage(0, 4 + 8, 10);
        Due.due("12 one too few", desk.take(0, 0), 6);
        Due.due("13 the first second", desk.why(0), 19);
    }

    /** 0 ends the cycle; 2 and 3 come a stage behind its beginning. */
    private static void clashRoundTheCycle() {
        GreenDesk desk = Towns.quiet(4);
        desk.against(0, 0, 2, 20, 1);
        desk.against(0, 0, 3, 20, 1);
        desk.against(0, 1, 3, 6, 1);
        desk.plan(0, 40);
        desk.stage(0, 2, 8);
        desk.stage(0, 4 + 8, 15);
        desk.stage(0, 1, 10);
        Due.due("12 round the cycle", desk.take(0, 0), 6);
        Due.due("13 the second", desk.why(0), 14);
        Due.due("13 the least i for the least j", desk.why(1), 0);
        Due.due("13 the least j", desk.why(2), 2);
        desk.plan(0, 40);
        desk.stage(0, 2, 8);
        desk.stage(0, 8, 15);
        desk.stage(0, 1, 10);
        Due.due("12 by 0 alone", desk.take(0, 0), 6);
        Due.due("13 i", desk.why(1), 0);
        Due.due("13 j", desk.why(2), 3);
    }

    private static void takeInPlace() {
        GreenDesk desk = new GreenDesk();
        Towns.addCrossing(desk, 0, 3);
        desk.plan(0, 40);
        Due.due("12 the taken one stays", desk.told(0, 1), 3);
        desk.stage(0, 1, 10);
        desk.stage(0, 2, 23);
        desk.take(0, 5);
        Due.due("12 in place of it", desk.told(0, 1), 5);
        Due.due("12 its green", desk.told(0, 20), 10);
        desk.tear(0, 0);
        desk.run(1);
        Due.due("12 it flashes", desk.flashes(0), true);
        Due.due("12 refused", desk.take(0, 0), 1);
        Due.due("12 it flashes on", desk.flashes(0), true);
        Towns.takeCrossing(desk, 0, 3);
        Due.due("12 it flashes no more", desk.flashes(0), false);
        Due.due("12 no row is torn", desk.told(0, 20), 18);
        desk.run(300);
        Due.due("12 nor is it later", desk.flashes(0), false);
    }

    private static void told() {
        GreenDesk desk = new GreenDesk();
        Towns.addCrossing(desk, 0, 39);
        int[] asked = {0, 1, 2, 3, 10, 11, 20, 21, 30, 31};
        int[] wanted = {40, 39, 2, 7, 1, 2, 18, 15, 3, 4};
        for (int k = 0; k < asked.length; k++) {
            Due.due("14 told(0, " + asked[k] + ")", desk.told(0, asked[k]), wanted[k]);
        }
        int[] others = {-1, -10, -11, 4, 9, 12, 13, 14, 19, 22, 29, 32, 39, 40, 100, 110,
            Integer.MIN_VALUE, Integer.MAX_VALUE};
        for (int other : others) {
            Due.due("14 told(0, " + other + ")", desk.told(0, other), GreenDesk.NONE);
        }
        Due.due("14 junction 1", desk.told(1, 0), GreenDesk.NONE);
        Due.due("14 junction -1", desk.told(-1, 0), GreenDesk.NONE);
        GreenDesk begun = Towns.quiet(1);
        begun.plan(0, 30);
        Due.due("14 begun alone", begun.told(0, 0), GreenDesk.NONE);
    }

    /** Streams that both stages have ask for no between, nor do those that yield. */
    private static void betweens() {
        GreenDesk desk = new GreenDesk();
        desk.junction();
        desk.stream(0, 0, 0, 600, 4);
        desk.stream(0, 0, 0, 600, 4);
        desk.stream(0, 1, 0, 600, 4);
        desk.stream(0, 0, 0, 600, 4);
        desk.against(0, 0, 1, 5, 6);
        desk.against(0, 2, 1, 20, 20);
        desk.yields(0, 2, 1);
        desk.against(0, 0, 3, 7, 9);
        desk.plan(0, 60);
        desk.stage(0, 1 + 4, 10);
        desk.stage(0, 2 + 4 + 8, 17);
        desk.stage(0, 2, 20);
        desk.take(0, 0);
        Due.due("14 the greatest", desk.told(0, 30), 7);
        Due.due("14 none", desk.told(0, 31), 0);
        Due.due("14 back to the first", desk.told(0, 32), 6);
        Due.due("14 all", desk.told(0, 3), 13);
        Due.due("20 green in a between", desk.lamp(0, 2, 12), 1);
        Due.due("20 none else there", desk.lamp(0, 1, 12), 0);
        Due.due("20 not in the last between", desk.lamp(0, 2, 55), 0);
    }

    private static void offset() {
        GreenDesk desk = new GreenDesk();
        Towns.addCrossing(desk, 0, 0);
        Due.due("15 it is that", desk.offset(0, 0), false);
        Due.due("15 -1", desk.offset(0, -1), false);
        Due.due("15 40", desk.offset(0, 40), false);
        Due.due("15 junction 1", desk.offset(1, 1), false);
        Due.due("15 39", desk.offset(0, 39), true);
        Due.due("15 told", desk.told(0, 1), 39);
        Due.due("15 lamp", desk.lamp(0, 0, 16), 1);
        Due.due("15 lamp", desk.lamp(0, 0, 17), 0);
        Due.due("15 back to 0", desk.offset(0, 0), true);
        desk.run(1);
        Due.due("15 no clearing at second 0", desk.queue(0, 0, 11), 1);
        desk.offset(0, 1);
        desk.run(1);
        Due.due("15 clearing behind one second", desk.queue(0, 0, 11), 0);
        GreenDesk begun = Towns.quiet(1);
        begun.plan(0, 30);
        Due.due("15 begun alone", begun.offset(0, 5), false);
    }

    private static void tear() {
        GreenDesk desk = new GreenDesk();
        Towns.addCrossing(desk, 0, 0);
        Due.due("16 -1", desk.tear(0, -1), false);
        Due.due("16 3", desk.tear(0, 3), false);
        Due.due("16 junction 1", desk.tear(1, 0), false);
        Due.due("16 behind all", desk.tear(0, 2), true);
        Due.due("16 none is gone", desk.told(0, 21), 15);
        Due.due("16 behind one", desk.tear(0, 1), true);
        Due.due("16 the second is gone", desk.told(0, 21), GreenDesk.NONE);
        Due.due("16 the first isn't", desk.told(0, 20), 18);
        Due.due("16 its set stays", desk.told(0, 11), 2);
        Due.due("16 its between stays", desk.told(0, 31), 4);
        Due.due("16 the stages stay", desk.told(0, 2), 2);
        Due.due("16 behind two", desk.tear(0, 2), true);
        Due.due("16 it stays gone", desk.told(0, 21), GreenDesk.NONE);
        desk.offset(0, 4);
        Due.due("16 behind offset() too", desk.told(0, 21), GreenDesk.NONE);
        Due.due("16 behind none", desk.tear(0, 0), true);
        Due.due("16 all are gone", desk.told(0, 20), GreenDesk.NONE);
        Due.due("16 lamps as if nothing were", desk.lamp(0, 0, 4), 1);
        Towns.takeCrossing(desk, 0, 0);
        Due.due("16 till a take()", desk.told(0, 21), 15);
        GreenDesk begun = Towns.quiet(1);
        begun.plan(0, 30);
        Due.due("16 begun alone", begun.tear(0, 0), false);
    }

    private static void green() {
        GreenDesk desk = Towns.quiet(1);
        Due.due("19 none is begun", desk.green(0, 0), GreenDesk.NONE);
        desk.plan(0, 30);
        Due.due("19 no stage", desk.green(0, 0), GreenDesk.NONE);
        desk.stage(0, 1, 0);
        desk.stage(0, 1, 90);
        Due.due("19 0", desk.green(0, 0), 0);
        Due.due("19 1", desk.green(0, 1), 90);
        Due.due("19 2", desk.green(0, 2), GreenDesk.NONE);
        Due.due("19 -1", desk.green(0, -1), GreenDesk.NONE);
        Due.due("19 junction 1", desk.green(1, 0), GreenDesk.NONE);
    }
}
