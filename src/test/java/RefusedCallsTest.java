/**
 * Each call that is refused, at its boundary: the exception is the one that the document names, and a twin
 * that never had the call shows that nothing else has changed. The calls beside the boundary that are not
 * refused are asked in the tests of their own promises.
 */
final class RefusedCallsTest {
    private static final int BIG = Integer.MAX_VALUE;
    private static final int SMALL = Integer.MIN_VALUE;
    private static final Class<IllegalArgumentException> ARGUMENT = IllegalArgumentException.class;
    private static final Class<IndexOutOfBoundsException> BOUNDS = IndexOutOfBoundsException.class;
    private static final Class<IllegalStateException> FAULT = IllegalStateException.class;
    private static final Class<UnsupportedOperationException> UNSUPPORTED = UnsupportedOperationException.class;

    interface CallOn {
        long answer(SystemParts x);
    }

    public static void main(String[] args) {
        for (Scene scene : Scene.values()) {
            part(scene);
            load(scene);
            placesThatAreNone(scene);
            placesWithNoPart(scene);
            step(scene);
            receiveAndSent(scene);
            lineAndAsks(scene);
            callsThatOnlyLook(scene);
        }
        twelveParts();
        thirtyTwoNumbers();
        fixedIsWritten();
        Check.end();
    }

    private static void changesNothing(String what, Scene scene, Class<? extends RuntimeException> want, CallOn call) {
        SystemParts touched = scene.make();
        Check.dueThrow(scene + ": " + what, want, () -> call.answer(touched));
        Check.same(scene + ": " + what, Seen.all(touched), Seen.all(scene.make()));
    }

    /** Promise 2: "when the kind is not 0 .. 5, the line not 0 .. 15, waits not 0 .. 7, the size not 1 .. 64 ..". */
    private static void part(Scene scene) {
        for (int bad : new int[] {SMALL, -1, 6, BIG}) {
            changesNothing("kind " + bad, scene, ARGUMENT, x -> x.part(bad, 90, 1, 0, 0));
        }
        for (int bad : new int[] {SMALL, -1, 16, BIG}) {
            changesNothing("line " + bad, scene, ARGUMENT, x -> x.part(2, 95, 1, bad, 0));
        }
        for (int bad : new int[] {SMALL, -1, 8, BIG}) {
            changesNothing("waits " + bad, scene, ARGUMENT, x -> x.part(2, 95, 1, 0, bad));
        }
        for (int bad : new int[] {SMALL, -1, 0, 65, BIG}) {
            changesNothing("size of a STORE " + bad, scene, ARGUMENT, x -> x.part(0, 95, bad, 0, 0));
            changesNothing("size of a FIXED " + bad, scene, ARGUMENT, x -> x.part(1, 95, bad, 0, 0));
        }
        for (int bad : new int[] {SMALL, -4, -1, 65533, 65536, BIG}) {
            changesNothing("a TIMER from " + bad, scene, ARGUMENT, x -> x.part(2, bad, 1, 0, 0));
        }
        if (scene != Scene.NEW) {
            changesNothing("upon the STORE's last place", scene, ARGUMENT, x -> x.part(3, 7, 1, 0, 0));
            changesNothing("upon the TIMER's first place", scene, ARGUMENT, x -> x.part(4, 10, 1, 0, 0));
        }
    }

    /** Promise 3: "when no such part has the place". */
    private static void load(Scene scene) {
        int[] none = {SMALL, -1, 12, 19, 24, 99, 65535, 65536, BIG};
        int[] otherKinds = {20, 23, 30, 32, 40, 50, 60, 63};
        for (int bad : none) {
            changesNothing("load at " + bad, scene, ARGUMENT, x -> x.load(bad, 5));
        }
        for (int bad : otherKinds) {
            changesNothing("load at " + bad, scene, ARGUMENT, x -> x.load(bad, 5));
        }
    }

    /** Promises 4 and 5: "IndexOutOfBoundsException, when it is none". It is no fault. */
    private static void placesThatAreNone(Scene scene) {
        for (int bad : new int[] {SMALL, -1, 65536, BIG}) {
            changesNothing("read of " + bad, scene, BOUNDS, x -> x.read(bad));
            changesNothing("write of " + bad, scene, BOUNDS, x -> x.write(bad, 5));
        }
    }

    /** "A place with no part: a FAULT (no step)": one fault more is all that it leaves. */
    private static void placesWithNoPart(Scene scene) {
        for (int place : new int[] {12, 19, 24, 99, 65535}) {
            countsAFault("read of " + place, scene, 0, x -> x.read(place));
            countsAFault("write of " + place, scene, 0, x -> x.write(place, 5));
        }
    }

    private static void countsAFault(String what, Scene scene, int steps, CallOn call) {
        SystemParts touched = scene.make();
        SystemParts twin = scene.make();
        Check.dueThrow(scene + ": " + what, FAULT, () -> call.answer(touched));
        if (steps > 0) {
            twin.step(steps);
        }
        Check.due(scene + ": " + what + " is counted", touched.count(4), twin.count(4) + 1);
        Check.same(scene + ": " + what, Seen.allBut(1, touched), Seen.all(twin));
    }

    /** Promise 6: "So many steps (1 .. 1000)". */
    private static void step(Scene scene) {
        for (int bad : new int[] {SMALL, -1, 0, 1001, BIG}) {
            changesNothing("step(" + bad + ")", scene, ARGUMENT, x -> x.step(bad) ? 1 : 0);
        }
    }

    /** Promises 7 and 8: "when the part is no such one"; "when there is none". */
    private static void receiveAndSent(Scene scene) {
        for (int bad : new int[] {SMALL, -1, 0, 1, 2, 4, 5, 6, 8, 11, 12, BIG}) {
            changesNothing("receive by part " + bad, scene, ARGUMENT, x -> x.receive(bad, 5));
            changesNothing("sent by part " + bad, scene, ARGUMENT, x -> x.sent(bad, 0));
            changesNothing("sent by part " + bad + ", k wrong too", scene, ARGUMENT, x -> x.sent(bad, -1));
        }
        if (scene != Scene.NEW) {
            for (int bad : new int[] {SMALL, -1, 32, BIG}) {
                changesNothing("sent, k " + bad, scene, BOUNDS, x -> x.sent(Scene.SERIAL, bad));
            }
        }
    }

    /** Promises 9 and 10: "when there is no such line"; "for another what or number". */
    private static void lineAndAsks(Scene scene) {
        for (int bad : new int[] {SMALL, -1, 16, BIG}) {
            changesNothing("asks(" + bad + ")", scene, BOUNDS, x -> x.asks(bad));
            changesNothing("line " + bad, scene, BOUNDS, x -> x.line(bad, 0, 1));
            changesNothing("line " + bad + ", what wrong too", scene, BOUNDS, x -> x.line(bad, 3, 1));
            changesNothing("line " + bad + ", number wrong too", scene, BOUNDS, x -> x.line(bad, 0, 3));
        }
        for (int bad : new int[] {SMALL, -1, 3, BIG}) {
            changesNothing("what " + bad, scene, ARGUMENT, x -> x.line(2, bad, 0));
            changesNothing("way " + bad, scene, ARGUMENT, x -> x.line(2, Kinds.WAY, bad));
        }
        for (int bad : new int[] {SMALL, -1, 16, BIG}) {
            changesNothing("rank " + bad, scene, ARGUMENT, x -> x.line(15, Kinds.RANK, bad));
        }
        for (int bad : new int[] {SMALL, -1, 2, BIG}) {
            changesNothing("hidden " + bad, scene, ARGUMENT, x -> x.line(4, Kinds.HIDDEN, bad));
        }
    }

    /** These change nothing though they are not refused. */
    private static void callsThatOnlyLook(Scene scene) {
        SystemParts touched = scene.make();
        for (int what = -1; what <= 10; what++) {
            touched.count(what);
        }
        for (int line = 0; line < 16; line++) {
            touched.asks(line);
        }
        touched.chosen();
        if (scene == Scene.FULL) {
            touched.sent(Scene.SERIAL, 0);
            touched.sent(Scene.SERIAL, 31);
        }
        Check.same(scene + ": looking", Seen.all(touched), Seen.all(scene.make()));
    }

    /** Promise 2: "UnsupportedOperationException, when there are twelve"; what is told ahead of it goes ahead. */
    private static void twelveParts() {
        for (int kind = 0; kind <= 5; kind++) {
            int k = kind;
            changesNothing("a thirteenth of kind " + k, Scene.FULL, UNSUPPORTED, x -> x.part(k, 200, 1, 0, 0));
            changesNothing("its line wrong too", Scene.FULL, ARGUMENT, x -> x.part(k, 200, 1, 16, 0));
            changesNothing("its waits wrong too", Scene.FULL, ARGUMENT, x -> x.part(k, 200, 1, 0, 8));
            changesNothing("upon another one too", Scene.FULL, ARGUMENT, x -> x.part(k, 93, 1, 0, 0));
            changesNothing("beyond the places too", Scene.FULL, ARGUMENT, x -> x.part(k, 65536, 1, 0, 0));
        }
        changesNothing("its kind wrong too", Scene.FULL, ARGUMENT, x -> x.part(6, 200, 1, 0, 0));
        changesNothing("its size wrong too", Scene.FULL, ARGUMENT, x -> x.part(0, 200, 65, 0, 0));
        changesNothing("its size wrong too", Scene.FULL, ARGUMENT, x -> x.part(1, 200, 0, 0, 0));
    }

    /** Promise 7: "UnsupportedOperationException, when there are 32". */
    private static void thirtyTwoNumbers() {
        changesNothing("a 33rd number", Scene.FULL, UNSUPPORTED, x -> x.receive(Scene.SERIAL, 77));
    }

    /** Promise 5: "when it is a fault (which is counted, and no write; of a FIXED its steps are done)". */
    private static void fixedIsWritten() {
        for (Scene scene : new Scene[] {Scene.BUSY, Scene.FULL, Scene.RESET}) {
            for (int place = Scene.FIXED_AT; place < Scene.FIXED_AT + 4; place++) {
                int p = place;
                countsAFault("write of a FIXED at " + p, scene, 1 + Scene.FIXED_WAITS, x -> x.write(p, 5));
            }
        }
    }
}
