/** The boundary cases of VIEWS: Terms 4, promises 14 and 15; ViewsTest has every THING under every VIEW. */
public final class ViewEdgesTest extends Due {
    public static void main(String[] args) {
        lanes();
        arrays();
        classes();
        layerOrBlock();
        emptyAndFull();
        noSuchView();
        unknown();
        throwing();
        end();
    }

    /** Which VIEWS of 0 .. 28 the THING of a call goes as. */
    private static void goesAs(String name, int a, int b, int... views) {
        Run x = new Run();
        if (b == NONE) {
            x.due(0, name, a);
        } else {
            x.due(0, name, a, b);
        }
        goes(x, views);
    }

    private static void goes(Run x, int... views) {
        long kind = x.answer("kind", 0);
        for (int view = 0; view <= 28; view++) {
            boolean listed = false;
            for (int each : views) {
                listed |= each == view;
            }
            x.due(listed ? 1 : 0, "is", 0, view);
            x.outcomeIs(listed ? (Object) kind : CAST_THROWN, "take", 0, view);
        }
        x.due(0, "fails", 0);
    }

    private static void lanes() {
        says("VIEWS 0 .. 7: a ROW of that LANE");
        for (int lane = 0; lane < 8; lane++) {
            goesAs("row", lane, 2, lane);
        }
    }

    private static void arrays() {
        says("8 an ARRAY of PARTS, LAYERS, DENSES, NORMS or BLOCKS, 9 of LAYERS, DENSES or NORMS",
            "10 of DENSES, 11 of NORMS, 12 of BLOCKS");
        goesAs("array", 0, 1, 8);
        goesAs("array", 1, 1, 8, 9, 25);
        goesAs("array", 2, 1, 8, 9, 10, 25);
        goesAs("array", 3, 1, 8, 9, 11, 25);
        goesAs("array", 4, 1, 8, 12, 25);
        says("13, 14, 15 of ROWS of doubles, floats, ints");
        goesAs("array", 5, 1, 13);
        goesAs("array", 6, 1, 14);
        goesAs("array", 7, 1, 15);
    }

    private static void classes() {
        says("16 .. 23 a PART of class 0 .. 7",
            "a THING is of a class if it is of it or of one under it");
        goesAs("part", 1, NONE, 16, 17, 24);
        goesAs("part", 2, NONE, 16, 17, 18, 24);
        goesAs("part", 3, NONE, 16, 17, 18, 19, 24);
        goesAs("part", 4, NONE, 16, 17, 20, 24);
        goesAs("part", 5, NONE, 16, 21, 24);
        goesAs("part", 6, NONE, 16, 21, 22, 24);
        goesAs("part", 7, NONE, 16, 23);
    }

    private static void layerOrBlock() {
        says("24 a LAYER or BLOCK; 25 an ARRAY of LAYERS, DENSES, NORMS or BLOCKS; 26 a PLAIN; 27 a LIST; 28 a MAP.");
        goesAs("plain", 24, NONE, 26);
        Run list = new Run();
        list.due(0, "list");
        goes(list, 27);
        Run map = new Run();
        map.due(0, "map");
        goes(map, 28);
        Run vault = new Run();
        vault.due(0, "part", 7).due(0, "is", 0, 24).due(0, "lock", 0, true);
        goes(vault, 16, 23);
    }

    /** What a THING goes as does not hang on what is in it. */
    private static void emptyAndFull() {
        says("Whether a THING goes as a VIEW: 1, 0.");
        for (int lane = 0; lane < 8; lane++) {
            goesAs("row", lane, 0, lane);
            goesAs("row", lane, 24, lane);
        }
        goesAs("array", 0, 0, 8);
        goesAs("array", 5, 0, 13);
        goesAs("array", 7, 12, 15);
        Run x = new Run();
        x.done("array", 0, 12);
        x.done("part", 2);
        for (int i = 0; i < 12; i++) {
            x.done("lay", 0, i, 1);
        }
        goes(x, 8);
    }

    private static void noSuchView() {
        says("Whether a THING goes as a VIEW: 1, 0. UNKNOWN, BAD.");
        Run x = new Run();
        x.done("row", 0, 1);
        x.done("array", 0, 1);
        x.done("list");
        x.done("map");
        x.done("part", 3);
        x.done("plain", 0);
        for (int t = 0; t < 6; t++) {
            for (int view : outside(0, 28)) {
                x.due(BAD, "is", t, view).due(BAD, "take", t, view);
            }
        }
        x.due(1, "is", 0, 0).due(1, "is", 3, 28).due(0, "fails", 0);
    }

    private static void unknown() {
        says("A THING taken as a VIEW: its KIND. UNKNOWN, BAD.");
        Run x = new Run();
        x.done("row", 0, 1);
        x.done("map");
        for (int t : outside(0, 1)) {
            x.due(UNKNOWN, "is", t, 0).due(UNKNOWN, "take", t, 28);
        }
        x.due(0, "take", 0, 0).due(3, "take", 1, 28);
    }

    private static void throwing() {
        says("Cast (thrown): it does not go as that.");
        Run x = new Run();
        x.done("part", 1);
        x.done("row", 5, 1);
        x.done("hold", 0, 0, 0, 1);
        x.due(1, "find", 0, 0, 0).thrown(CAST_THROWN, "take", 0, 18).thrown(CAST_THROWN, "take", 1, 4);
        x.due(1, "count", 1).due(1, "count", 2).due(0, "fails", 0).due(0, "fails", 2).due(4, "take", 0, 17);
    }
}
