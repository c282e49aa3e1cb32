/** The TIMER: what promises 4 to 6 say of it. */
final class TimerTest {
    public static void main(String[] args) {
        registers();
        stopsAtTheLimit();
        beginsAnew();
        asksWhileFired();
        limitIsMetOnlyByACount();
        resetsAll();
        Check.end();
    }

    private static SystemParts timer(int limit, int mode) {
        SystemParts x = new SystemParts();
        x.part(Kinds.TIMER, 0, 0, 6, 0);
        x.write(1, limit);
        x.write(2, mode);
        return x;
    }

    private static void registers() {
        SystemParts x = new SystemParts();
        x.part(Kinds.TIMER, 0, 0, 0, 0);
        x.write(0, Integer.MIN_VALUE);
        x.write(1, -7);
        x.write(2, 0xFFFFFFF6);
        x.write(3, 1);
        Check.due("COUNT", x.read(0), Integer.MIN_VALUE);
        Check.due("LIMIT", x.read(1), -7);
        Check.due("MODE has four bits", x.read(2), 6);
        Check.due("a write of 1 makes FIRED 0", x.read(3), 0);
        x.write(2, 16);
        Check.due("MODE has four bits", x.read(2), 0);
    }

    private static void stopsAtTheLimit() {
        SystemParts x = timer(3, 1);
        x.step(2);
        Check.due("it goes", x.read(2), 0);
        Check.due("it fired in the step of that read", x.read(3), 1);
        x.step(9);
        Check.due("the count stays at the limit", x.read(0), 3);
        Check.due("it goes no more", x.read(2), 0);
        x.write(3, 99);
        Check.due("a write makes FIRED 0", x.read(3), 0);
        x.write(2, 1);
        x.step(2);
        Check.due("it goes on when told", x.read(0), 6);
    }

    private static void beginsAnew() {
        SystemParts x = timer(3, 3);
        x.step(2);
        Check.due("count", x.count(0), 4);
        Check.due("it fires", x.read(0), 0);
        Check.due("fired", x.read(3), 1);
        Check.due("count goes on", x.read(0), 2);
        Check.due("the mode stays", x.read(2), 3);
        Check.due("count goes on", x.read(0), 1);
        SystemParts y = timer(1, 3);
        y.step(5);
        Check.due("a limit of 1", y.read(0), 0);
    }

    private static void asksWhileFired() {
        SystemParts x = timer(2, 1);
        x.step(5);
        Check.due("without mode 4 it asks not", x.asks(6), 0);
        x.write(2, 4);
        Check.due("with mode 4 and fired", x.asks(6), 3);
        x.write(2, 8 + 2);
        Check.due("mode 4 is gone", x.asks(6), 0);
        x.write(2, 4);
        x.write(3, 0);
        Check.due("not fired any more", x.asks(6), 0);
        x.write(2, 3);
        x.write(0, 0);
        x.step(3);
        Check.due("it fired and goes on, but asks not", x.asks(6), 0);
        SystemParts y = timer(2, 5);
        Check.due("not yet", y.asks(6), 0);
        y.step(1);
        Check.due("not yet", y.asks(6), 0);
        y.step(1);
        Check.due("it asks", y.asks(6), 3);
        y.step(50);
        Check.due("it asks on", y.asks(6), 3);
    }

    private static void limitIsMetOnlyByACount() {
        SystemParts x = timer(0, 5);
        x.step(3);
        Check.due("a limit of 0 is behind it", x.read(0), 4);
        Check.due("not fired", x.read(3), 0);
        x.write(0, -2);
        x.step(1);
        Check.due("not fired", x.asks(6), 0);
        x.step(1);
        Check.due("it comes round to 0", x.asks(6), 3);
        SystemParts y = timer(7, 4);
        y.write(0, 7);
        y.step(3);
        Check.due("a timer that stands at its limit fires not", y.read(3), 0);
        y.write(2, 1);
        y.step(3);
        Check.due("nor when it goes on from there", y.read(3), 0);
        SystemParts z = timer(Integer.MIN_VALUE, 5);
        z.write(0, Integer.MAX_VALUE);
        z.step(1);
        Check.due("a limit beyond the greatest number", z.asks(6), 3);
    }

    private static void resetsAll() {
        SystemParts x = timer(3, 15);
        Check.due("no reset", x.step(2), false);
        Check.due("a reset", x.step(1), true);
        Check.due("its cause", x.count(5), 2);
        Check.due("no lines", x.count(6) + x.count(7), 0);
        for (int i = 0; i < 4; i++) {
            Check.due("registers are as at first", x.read(i), 0);
        }
        Check.due("the time stays", x.count(0), 9);
    }
}
