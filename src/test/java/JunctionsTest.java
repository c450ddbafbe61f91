/** Promises 1 to 6: a new object, junction, stream, against, yields, street. */
public final class JunctionsTest {
    public static void main(String[] args) {
        newObject();
        junction();
        stream();
        streamOnlyAtFirst();
        against();
        yields();
        street();
        Due.end();
    }

    private static void newObject() {
        GreenDesk desk = new GreenDesk();
        Due.due("1 count(0)", desk.count(0), 0);
        Due.due("1 count(1)", desk.count(1), 0);
        Due.due("1 count(2)", desk.count(2), 0);
        Due.due("1 sets(0)", desk.sets(0), GreenDesk.NONE);
        Due.due("1 why(0)", desk.why(0), GreenDesk.NONE);
        Due.due("1 NONE", GreenDesk.NONE, -1);
    }

    private static void junction() {
        GreenDesk desk = new GreenDesk();
        for (int k = 0; k < 8; k++) {
            Due.due("2 junction " + k, desk.junction(), k);
        }
        Due.due("2 a ninth junction", desk.junction(), GreenDesk.NONE);
        Due.due("2 count(0)", desk.count(0), 8);

        GreenDesk late = new GreenDesk();
        late.run(0);
        Due.due("2 behind run(0)", late.junction(), 0);
        late.run(1);
        Due.due("2 behind run(1)", late.junction(), GreenDesk.NONE);
        Due.due("2 count(0) then", late.count(0), 1);
    }

    private static void stream() {
        GreenDesk desk = new GreenDesk();
        desk.junction();
        Due.due("3 edges below", desk.stream(0, 0, 0, 600, 4), 0);
        Due.due("3 edges above", desk.stream(0, 0, 3600, 3600, 30), 1);
        Due.due("3 count -1", desk.stream(0, 0, -1, 600, 4), -1);
        Due.due("3 count 3601", desk.stream(0, 0, 3601, 600, 4), -1);
        Due.due("3 rate 599", desk.stream(0, 0, 0, 599, 4), -1);
        Due.due("3 rate 3601", desk.stream(0, 0, 0, 3601, 4), -1);
        Due.due("3 rate 599 of a turn", desk.stream(0, 1, 0, 599, 4), -1);
        Due.due("3 least 3", desk.stream(0, 2, 0, 600, 3), -1);
        Due.due("3 least 31", desk.stream(0, 3, 0, 600, 31), -1);
        Due.due("3 kind -1", desk.stream(0, -1, 0, 600, 4), -1);
        Due.due("3 kind 4", desk.stream(0, 4, 0, 600, 4), -1);
        Due.due("3 junction 1", desk.stream(1, 0, 0, 600, 4), -1);
        Due.due("3 junction -1", desk.stream(-1, 0, 0, 600, 4), -1);
        Due.due("3 turn", desk.stream(0, 1, 10, 700, 4), 2);
        Due.due("3 turn's least", desk.queue(0, 2, 9), 5);
        Due.due("3 walk, rate not asked", desk.stream(0, 2, 10, Integer.MIN_VALUE, 7), 3);
        Due.due("3 walk's least", desk.queue(0, 3, 9), 8);
        Due.due("3 walk's rate", desk.queue(0, 3, 8), 3600);
        Due.due("3 bus, rate not asked", desk.stream(0, 3, 10, 99999, 4), 4);
        Due.due("3 bus's rate", desk.queue(0, 4, 8), 1200);
        Due.due("3 bus's least", desk.queue(0, 4, 9), 4);
        Due.due("3 turn above its least", desk.stream(0, 1, 10, 700, 6), 5);
        Due.due("3 its least", desk.queue(0, 5, 9), 6);
        Due.due("3 walk above its least", desk.stream(0, 2, 10, 700, 30), 6);
        Due.due("3 its least", desk.queue(0, 6, 9), 30);
        Due.due("3 the eighth", desk.stream(0, 0, 10, 700, 6), 7);
        Due.due("3 a ninth", desk.stream(0, 0, 10, 700, 6), -1);
    }

    private static void streamOnlyAtFirst() {
        GreenDesk planned = Towns.quiet(2);
        planned.plan(0, 30);
        Due.due("3 with a plan begun", planned.stream(0, 0, 0, 600, 4), -1);
        GreenDesk taken = new GreenDesk();
        Towns.addCrossing(taken, 0, 0);
        Due.due("3 with a plan taken", taken.stream(0, 0, 0, 600, 4), -1);
        GreenDesk late = Towns.quiet(1);
        late.run(1);
        Due.due("3 behind a second", late.stream(0, 0, 0, 600, 4), -1);
    }

    private static void against() {
        GreenDesk desk = Towns.quiet(3);
        Due.due("4 at first no two are", desk.goes(0, 7), true);
        Due.due("4 edges", desk.against(0, 0, 1, 1, 20), true);
        Due.due("4 they are now", desk.goes(0, 3), false);
        Due.due("4 others aren't", desk.goes(0, 6), true);
        Due.due("4 alike", desk.against(0, 1, 1, 3, 3), false);
        Due.due("4 there 0", desk.against(0, 1, 2, 0, 3), false);
        Due.due("4 there 21", desk.against(0, 1, 2, 21, 3), false);
        Due.due("4 back 0", desk.against(0, 1, 2, 3, 0), false);
        Due.due("4 back 21", desk.against(0, 1, 2, 3, 21), false);
        Due.due("4 stream 3", desk.against(0, 1, 3, 3, 3), false);
        Due.due("4 stream -1", desk.against(0, -1, 2, 3, 3), false);
        Due.due("4 junction 1", desk.against(1, 1, 2, 3, 3), false);
        Due.due("4 nothing was done", desk.goes(0, 6), true);
        Due.due("4 told anew", desk.against(0, 1, 0, 6, 5), true);
        desk.run(1);
        Due.due("4 behind a second", desk.against(0, 1, 2, 2, 2), true);
        desk.plan(0, 30);
        Due.due("4 with a plan begun", desk.against(0, 0, 2, 3, 3), false);
        desk.stage(0, 1, 9);
        desk.stage(0, 2, 10);
        Due.due("4 both ways told anew", desk.take(0, 0), 0);
        Due.due("4 from 0 to 1", desk.told(0, 30), 5);
        Due.due("4 from 1 to 0", desk.told(0, 31), 6);
        Due.due("4 with a plan taken", desk.against(0, 0, 2, 3, 3), false);
    }

    private static void yields() {
        GreenDesk desk = new GreenDesk();
        desk.junction();
        desk.stream(0, 0, 0, 600, 4);
        desk.stream(0, 1, 0, 600, 4);
        desk.stream(0, 1, 0, 600, 4);
        desk.stream(0, 2, 0, 600, 4);
        Due.due("5 not against", desk.yields(0, 1, 0), false);
        desk.against(0, 0, 1, 3, 3);
        desk.against(0, 1, 2, 3, 3);
        desk.against(0, 3, 2, 3, 3);
        desk.against(0, 0, 3, 3, 3);
        Due.due("5 no turn", desk.yields(0, 0, 1), false);
        Due.due("5 to a turn", desk.yields(0, 1, 2), false);
        Due.due("5 no turn, no turn", desk.yields(0, 0, 3), false);
        Due.due("5 to itself", desk.yields(0, 1, 1), false);
        Due.due("5 stream 4", desk.yields(0, 1, 4), false);
        Due.due("5 stream -1", desk.yields(0, -1, 0), false);
        Due.due("5 junction 1", desk.yields(1, 1, 0), false);
        Due.due("5 not yet", desk.goes(0, 3), false);
        Due.due("5 to a stream", desk.yields(0, 1, 0), true);
        Due.due("5 it does", desk.yields(0, 1, 0), false);
        Due.due("5 together", desk.goes(0, 3), true);
        Due.due("5 to a walk", desk.yields(0, 2, 3), true);
        Due.due("5 together", desk.goes(0, 12), true);
        Due.due("5 against told anew", desk.against(0, 0, 1, 9, 9), true);
        Due.due("5 yields all the same", desk.goes(0, 3), true);
        desk.plan(0, 30);
        desk.stage(0, 2, 15);
        desk.stage(0, 1, 15);
        Due.due("5 no between for them", desk.take(0, 0), 0);
        Due.due("5 told(0, 3)", desk.told(0, 3), 0);

        GreenDesk planned = new GreenDesk();
        planned.junction();
        planned.stream(0, 1, 0, 600, 4);
        planned.stream(0, 0, 0, 600, 4);
        planned.against(0, 0, 1, 3, 3);
        planned.run(1);
        planned.plan(0, 30);
        Due.due("5 with a plan begun", planned.yields(0, 0, 1), false);
    }

    private static void street() {
        GreenDesk desk = Towns.quiet(2);
        Towns.addQuiet(desk, 2);
        Due.due("6 none", desk.queue(0, 0, 6), GreenDesk.NONE);
        Due.due("6 to its own", desk.street(0, 0, 0, 1, 5, 5), false);
        Due.due("6 time 0", desk.street(0, 0, 1, 0, 0, 5), false);
        Due.due("6 time 61", desk.street(0, 0, 1, 0, 61, 5), false);
        Due.due("6 room 0", desk.street(0, 0, 1, 0, 5, 0), false);
        Due.due("6 room 61", desk.street(0, 0, 1, 0, 5, 61), false);
        Due.due("6 stream 2", desk.street(0, 2, 1, 0, 5, 5), false);
        Due.due("6 to stream 2", desk.street(0, 0, 1, 2, 5, 5), false);
        Due.due("6 to junction 2", desk.street(0, 0, 2, 0, 5, 5), false);
        Due.due("6 to junction -1", desk.street(0, 0, -1, 0, 5, 5), false);
        Due.due("6 still none", desk.queue(0, 0, 6), GreenDesk.NONE);
        Due.due("6 edges below", desk.street(0, 0, 1, 0, 1, 1), true);
        Due.due("6 it is there", desk.queue(0, 0, 6), 0);
        Due.due("6 it has one", desk.street(0, 0, 1, 1, 5, 5), false);
        Due.due("6 edges above, to the same", desk.street(0, 1, 1, 0, 60, 60), true);
        Due.due("6 back", desk.street(1, 0, 0, 0, 3, 3), true);
        Due.due("6 with a plan", desk.plan(1, 40) && desk.street(1, 1, 0, 0, 3, 3), true);

        GreenDesk late = Towns.quiet(1);
        Towns.addQuiet(late, 1);
        late.run(1);
        Due.due("6 behind a second", late.street(0, 0, 1, 0, 5, 5), false);
    }
}
