/** Promises 30 to 33: the text, its fault and its orders. */
public final class TextsTest {
    private TextsTest() {
    }

    public static void main(String[] args) {
        typed();
        cleared();
        forms();
        missing();
        impossible();
        faultsInTheMiddle();
        faultAsked();
        plays();
        playsUndone();
        Due.end();
    }

    private static void typed() {
        OhmBridge x = new OhmBridge();
        Due.due(30, x.type(31), Due.INVALID);
        Due.due(30, x.type(127), Due.INVALID);
        Due.due(30, x.type(-1), Due.INVALID);
        Due.due(30, x.type(65536 + 's'), Due.INVALID);
        Due.due(30, x.count(7), 0);
        for (int length = 1; length <= 60; length++) {
            Due.due(30, x.type(length % 2 == 0 ? 32 : 126), length);
        }
        Due.due(30, x.type(32), Due.LIMIT);
        Due.due(30, x.type(31), Due.INVALID);
        Due.due(30, x.count(7), 60);
        Due.due(30, x.count(6), 0);
    }

    private static void cleared() {
        OhmBridge x = new OhmBridge();
        Due.due(31, x.clearText(), 0);
        Due.type(x, "abc");
        Due.due(31, x.clearText(), 3);
        Due.due(31, x.clearText(), 0);
        Due.due(31, x.count(7), 0);
        Due.due(31, x.type('s'), 1);
        Due.due(31, x.count(6), 0);
        for (int length = 2; length <= 60; length++) {
            x.type('s');
        }
        Due.due(31, x.clearText(), 60);
        Due.due(31, x.fault(0), Due.NOT_FOUND);
    }

    private static void reason(OhmBridge x, String text, int position, int reason) {
        Due.type(x, text);
        Due.due(32, x.fault(0), position);
        Due.due(32, x.fault(1), reason);
        Due.due(33, x.play(), Due.NOT_POSSIBLE);
    }

    private static void fine(OhmBridge x, String text) {
        Due.type(x, text);
        Due.due(32, x.fault(0), Due.NOT_FOUND);
        Due.due(32, x.fault(1), Due.NOT_FOUND);
    }

    private static void forms() {
        OhmBridge x = Due.exactSensor(3);
        String[] wrong = {"s", ";", " s;", "s ;", "s0;", "S;", "x;", "r", "r;", "r0", "r0 ;", "r 0;", "r-0;", "r0,0;",
            "r0000000;", "r+0;", "t0;", "t0,;", "t0,-;", "t0,--1;", "t0,+1;", "t0,1", "t0,1,", "t0,1-;", "t0,0000001;",
            "t0,-0000001;", "t,1;", "t-0,1;", "t0;1;", "t0,1 ;", "b0;", "b0,;", "b,0;", "b0,-0;", "b0,0", "b0,0000000;",
            "b0000000,0;", "m0,-1;", "m0;", "m0,0,0;", "t0,a;", "r0a;", "t0,1/;", "t0,1:;", "t9,x;", "b9,9", "0;", "t"};
        for (String text : wrong) {
            reason(x, text, 0, 1);
        }
        String[] right = {"", "s;", "r0;", "r000000;", "t0,1;", "t0,-1;", "t0,-0;", "t000000,000001;", "t0,-000001;",
            "t0,100000;", "b0,2;", "b000000,000001;", "b0,0;m0,0;", "s;s;s;"};
        for (String text : right) {
            fine(x, text);
        }
    }

    private static void missing() {
        OhmBridge x = Due.exactSensor(3);
        String[] wrong = {"r1;", "r999999;", "t1,0;", "t6,999999;", "b1,0;", "m1,0;", "b0,3;", "m0,3;", "b0,999999;",
            "b0,32;", "m0,32;", "b6,9;"};
        for (String text : wrong) {
            reason(x, text, 0, 2);
        }
        x.sensor(0, 4, 100000);
        fine(x, "t1,0;");
        fine(x, "b1,3;");
        reason(new OhmBridge(), "r0;", 0, 2);
    }

    private static void impossible() {
        OhmBridge x = Due.exactSensor(3);
        x.cut(0, 1, 1);
        String[] wrong = {"r0;", "b0,1;", "m0,0;", "t0,100001;", "t0,-50001;", "t0,999999;", "t0,-999999;", "t0,850001;"};
        for (String text : wrong) {
            reason(x, text, 0, 3);
        }
        fine(x, "s;");
        fine(x, "m0,1;");
        x.unplug(0);
        reason(x, "s;", 0, 3);
        reason(new OhmBridge(), "s;", 0, 3);
    }

    private static void faultsInTheMiddle() {
        OhmBridge x = Due.exactSensor(3);
        reason(x, "s;t0,5;b0,1;r0;", 12, 3);
        reason(x, "s;t0,5;b0,1;x", 12, 1);
        reason(x, "b0,1;b0,1;", 5, 3);
        reason(x, "b0,1;m0,1;m0,1;", 10, 3);
        reason(x, "r0;r1;x;", 3, 2);
        reason(x, "s;s; ", 4, 1);
        reason(x, "b0,0;r0;r", 5, 3);
        fine(x, "b0,0;m0,0;r0;");
        fine(x, "b0,0;s;");
        Due.due(32, x.sensorOf(0, 12), 0);
        Due.due(32, x.sensorOf(0, 18), 0);
        Due.due(32, x.sensorOf(0, 4), 0);
        Due.due(32, x.count(5), Due.NOT_FOUND);
        x.cut(0, 0, 1);
        reason(x, "r0;m0,0;", 0, 3);
        fine(x, "m0,0;r0;");
        x.strain(0, 1, 90000);
        reason(x, "m0,0;r0;", 5, 3);
    }

    private static void faultAsked() {
        OhmBridge x = new OhmBridge();
        Due.due(32, x.fault(-1), Due.INVALID);
        Due.due(32, x.fault(2), Due.INVALID);
        Due.due(32, x.fault(0), Due.NOT_FOUND);
        Due.due(32, x.fault(1), Due.NOT_FOUND);
        x.type('?');
        Due.due(32, x.fault(2), Due.INVALID);
        Due.due(32, x.fault(0), 0);
        Due.due(32, x.fault(1), 1);
        Due.due(32, x.count(7), 1);
    }

    private static void plays() {
        OhmBridge x = Due.exactSensor(3);
        Due.due(33, x.play(), 0);
        Due.type(x, "t0,-77;r0;b0,2;s;m0,2;t0,000050;s;b0,0;");
        Due.due(33, x.play(), 8);
        Due.due(33, x.count(7), 39);
        Due.due(33, x.sensorOf(0, 4), 50);
        Due.due(33, x.sensorOf(0, 12), 1);
        Due.due(33, x.sensorOf(0, 18), 2);
        Due.due(33, x.readingAt(0, 0), 50);
        Due.due(33, x.readingAt(0, 1), -77);
        Due.due(33, x.count(5), 30);
        Due.due(33, x.play(), Due.NOT_POSSIBLE);
        Due.due(33, x.fault(0), 7);
        Due.due(33, x.fault(1), 3);
        Due.due(33, x.sensorOf(0, 4), 50);
        x.cut(0, 0, 0);
        Due.due(33, x.play(), 8);
        Due.due(33, x.sensorOf(0, 18), 4);
        StringBuilder scans = new StringBuilder();
        for (int scan = 0; scan < 30; scan++) {
            scans.append("s;");
        }
        x.cut(0, 0, 0);
        Due.type(x, scans.toString());
        Due.due(33, x.play(), 30);
        Due.due(33, x.sensorOf(0, 18), 34);
        x.limits(0, 100, 200, 0);
        Due.type(x, "r0;");
        Due.due(33, x.play(), 1);
        Due.due(33, x.sensorOf(0, 17), 1);
    }

    private static void playsUndone() {
        OhmBridge x = Due.exactSensor(3);
        x.set(4, 1);
        x.undo();
        Due.due(33, x.count(6), 3);
        Due.type(x, "t0,9;r0;b0,0;s;");
        Due.due(33, x.play(), 4);
        Due.due(33, x.count(6), 4);
        Due.due(33, x.undo(), 3);
        Due.due(33, x.sensorOf(0, 4), 0);
        Due.due(33, x.sensorOf(0, 12), 0);
        Due.due(33, x.sensorOf(0, 18), 0);
        Due.due(33, x.count(5), Due.NOT_FOUND);
        Due.due(33, x.count(7), 15);
        x.clearText();
        Due.due(33, x.play(), 0);
        Due.due(33, x.count(6), 4);
        Due.due(33, x.undo(), 3);
        // a sensor of another table is of it still when it was played and undone
        x.table();
        x.node(1, 300, 5000);
        x.node(1, 310, 5100);
        x.sensor(1, 2, 100000);
        Due.type(x, "t1,310;");
        Due.due(33, x.play(), 1);
        Due.due(33, x.sensorOf(1, 0), 1);
        Due.due(33, x.sensorOf(1, 4), 310);
        x.undo();
        Due.due(29, x.sensorOf(1, 0), 1);
        Due.due(29, x.sensorOf(1, 4), 300);
        Due.due(29, x.ohms(1, 0), 500);
    }
}
