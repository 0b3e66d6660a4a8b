/** The boundary cases of SIZE and TITLE: Terms 2, promise 26. */
public final class SizeEdgesTest extends Due {
    private static final int LAYER = 1, DENSE = 2, DEEP = 3, NORM = 4, BLOCK = 5, BANK = 6, VAULT = 7;

    public static void main(String[] args) {
        layers();
        weightOfLayer();
        deeps();
        deepOrder();
        norms();
        blocks();
        blockOrder();
        banks();
        bankOrder();
        vaults();
        tenWithinOneAnother();
        eleventhIsNotLookedAt();
        bareTenth();
        partsOfTheSameOne();
        branches();
        rings();
        firstIsTold();
        titles();
        twice();
        refusals();
        end();
    }

    private static void layers() {
        says("LAYER: how many ITEMS or SPOTS its WEIGHT (that of LAYER) has (NOTHING: bare; KIND: neither ROW nor ARRAY).");
        int[] classes = {LAYER, DENSE};
        for (int cls : classes) {
            Run x = new Run();
            x.done("part", cls);
            x.due(NOTHING, "ask", 0, 0).due(1, "fails", 1).due(NOTHING, "ask", 0, 2).due(2, "fails", 1);
            int[] sizes = {0, 1, 12};
            for (int n : sizes) {
                for (int kind = 0; kind < 8; kind++) {
                    x.done("hold", 0, 1, 0, x.done("row", kind, 2 * n));
                    x.due(2 * n, "ask", 0, 0);
                    x.done("hold", 0, 1, 0, x.done("array", kind, n));
                    x.due(n, "ask", 0, 0);
                }
            }
            x.due(2, "fails", 0);
            int[] others = {x.done("list"), x.done("map"), x.done("part", LAYER), x.done("part", VAULT), x.done("plain", 9)};
            x.done("push", others[0], 0);
            x.done("key", others[1], 3, 0);
            for (int t : others) {
                x.done("hold", 0, 1, 0, t);
                x.due(KIND, "ask", 0, 0);
            }
            x.due(5, "fails", 4).due(7, "fails", 0);
            x.done("hold", 0, 1, 0, -1);
            x.due(NOTHING, "ask", 0, 0);
        }
    }

    private static void weightOfLayer() {
        says("its WEIGHT (that of LAYER)");
        Run x = new Run();
        x.done("part", DENSE);
        x.done("part", DEEP);
        x.done("part", LAYER);
        x.done("row", 5, 3);
        x.done("row", 5, 4);
        x.done("row", 5, 5);
        x.done("hold", 0, 0, 0, 3);
        x.done("hold", 0, 2, 0, 3);
        x.done("hold", 0, 2, 1, 3);
        x.due(NOTHING, "ask", 0, 0);
        x.done("hold", 0, 1, 0, 4);
        x.due(4, "ask", 0, 0);
        x.done("hold", 2, 1, 0, 5);
        x.done("hold", 1, 3, 1, 2);
        x.done("hold", 1, 2, 0, 3);
        x.done("hold", 1, 3, 0, 3);
        x.due(NOTHING, "ask", 1, 0);
        x.done("hold", 1, 1, 0, 4);
        x.due(9, "ask", 1, 0);
    }

    private static void deeps() {
        says("DEEP: SIZE as of what stands above it, and SIZE of INNER (NOTHING).");
        Run x = new Run();
        x.done("part", DEEP);
        x.done("part", LAYER);
        x.done("row", 0, 24);
        x.done("row", 0, 0);
        x.done("hold", 0, 1, 0, 2);
        x.due(NOTHING, "ask", 0, 0);
        x.done("hold", 0, 3, 1, 1);
        x.due(NOTHING, "ask", 0, 0);
        x.done("hold", 1, 1, 0, 2);
        x.due(48, "ask", 0, 0);
        x.done("hold", 1, 1, 0, 3);
        x.due(24, "ask", 0, 0);
        x.done("hold", 0, 1, 0, 3);
        x.due(0, "ask", 0, 0).due(2, "fails", 0);
        x.done("hold", 0, 3, 1, -1);
        x.due(NOTHING, "ask", 0, 0);
    }

    private static void deepOrder() {
        says("What comes first in this order is told.");
        Run x = new Run();
        x.done("part", DEEP);
        x.done("part", LAYER);
        x.done("plain", 1);
        x.done("row", 0, 2);
        x.due(NOTHING, "ask", 0, 0);
        x.done("hold", 0, 1, 0, 2);
        x.due(KIND, "ask", 0, 0);
        x.done("hold", 0, 3, 1, 1);
        x.due(KIND, "ask", 0, 0);
        x.done("hold", 0, 1, 0, -1);
        x.done("hold", 1, 1, 0, 2);
        x.due(NOTHING, "ask", 0, 0);
        x.done("hold", 0, 1, 0, 3);
        x.due(KIND, "ask", 0, 0);
    }

    private static void norms() {
        says("NORM: twice the ITEMS of SCALE (NOTHING).");
        Run x = new Run();
        x.done("part", NORM);
        x.done("row", 4, 0);
        x.done("row", 4, 1);
        x.done("row", 4, 24);
        x.done("plain", 3);
        x.due(NOTHING, "ask", 0, 0);
        x.done("hold", 0, 1, 0, 3);
        x.done("hold", 0, 4, 1, 3);
        x.due(NOTHING, "ask", 0, 0).due(2, "fails", 1);
        x.done("hold", 0, 4, 0, 1);
        x.due(0, "ask", 0, 0);
        x.done("hold", 0, 4, 0, 2);
        x.due(2, "ask", 0, 0);
        x.done("hold", 0, 4, 0, 3);
        x.due(48, "ask", 0, 0).due(96, "ask", 0, 2);
        x.done("hold", 0, 1, 0, 4);
        x.due(48, "ask", 0, 0).due(2, "fails", 0);
    }

    private static void blocks() {
        says("BLOCK: SIZE of LEFT (NOTHING), and SIZE of RIGHT (NOTHING).");
        Run x = new Run();
        x.done("part", BLOCK);
        x.done("part", VAULT);
        x.done("part", LAYER);
        x.done("row", 0, 0);
        x.done("hold", 2, 1, 0, 3);
        x.due(NOTHING, "ask", 0, 0);
        x.done("hold", 0, 5, 1, 1);
        x.due(NOTHING, "ask", 0, 0);
        x.done("hold", 0, 5, 0, 1);
        x.due(14, "ask", 0, 0);
        x.done("hold", 0, 5, 1, -1);
        x.due(NOTHING, "ask", 0, 0).due(3, "fails", 1).due(3, "fails", 0);
        x.done("hold", 0, 5, 1, 2);
        x.due(7, "ask", 0, 0);
        x.done("hold", 0, 5, 0, 2);
        x.due(0, "ask", 0, 0);
        x.done("hold", 0, 5, 1, 1);
        x.due(7, "ask", 0, 0).due(14, "ask", 0, 2);
    }

    private static void blockOrder() {
        says("What comes first in this order is told.");
        Run x = new Run();
        x.done("part", BLOCK);
        x.done("part", VAULT);
        x.done("part", LAYER);
        x.done("plain", 0);
        x.done("part", VAULT);
        x.done("lock", 1, true);
        x.done("hold", 2, 1, 0, 3);
        x.done("hold", 0, 5, 1, 1);
        x.due(NOTHING, "ask", 0, 0);
        x.done("hold", 0, 5, 0, 2);
        x.due(KIND, "ask", 0, 0);
        x.done("hold", 0, 5, 0, 1);
        x.done("hold", 0, 5, 1, 2);
        x.due(TROUBLE, "ask", 0, 0);
        x.done("hold", 0, 5, 1, -1);
        x.due(TROUBLE, "ask", 0, 0);
        x.done("hold", 0, 5, 0, 4);
        x.due(NOTHING, "ask", 0, 0);
        x.done("hold", 0, 5, 1, 1);
        x.due(TROUBLE, "ask", 0, 0);
    }

    /** BANK 0 with VAULT 1 on both sides, TABLE 2 of n SPOTS. */
    private static Run bank(int n) {
        Run x = new Run();
        x.done("part", BANK);
        x.done("part", VAULT);
        x.done("array", 5, n);
        x.done("hold", 0, 5, 0, 1);
        x.done("hold", 0, 5, 1, 1);
        x.done("hold", 0, 6, 0, 2);
        return x;
    }

    private static void banks() {
        says("BANK: SIZE as of what stands above it, and the SPOTS of TABLE (NOTHING).");
        bank(0).due(14, "ask", 0, 0);
        bank(1).due(15, "ask", 0, 0);
        bank(12).due(26, "ask", 0, 0).due(52, "ask", 0, 2);
        Run x = bank(3);
        x.done("row", 5, 24);
        x.done("lay", 2, 1, 3);
        x.done("array", 1, 5);
        x.done("hold", 0, 6, 1, 4);
        x.due(17, "ask", 0, 0);
        x.done("hold", 0, 6, 0, -1);
        x.due(NOTHING, "ask", 0, 0).due(1, "fails", 0);
        // a SIZE of 0 above is no FINDING: TABLE is still looked at
        Run y = bank(12);
        y.done("part", LAYER);
        y.done("row", 0, 0);
        y.done("hold", 3, 1, 0, 4);
        y.done("hold", 0, 5, 0, 3);
        y.done("hold", 0, 5, 1, 3);
        y.due(12, "ask", 0, 0).due(24, "ask", 0, 2);
        y.done("hold", 0, 6, 0, -1);
        y.due(NOTHING, "ask", 0, 0).due(1, "fails", 0);
    }

    private static void bankOrder() {
        says("What comes first in this order is told.");
        Run x = bank(2);
        x.done("lock", 1, true);
        x.due(TROUBLE, "ask", 0, 0);
        x.done("hold", 0, 6, 0, -1);
        x.due(TROUBLE, "ask", 0, 0);
        x.done("hold", 0, 5, 0, -1);
        x.due(NOTHING, "ask", 0, 0);
        x.done("lock", 1, false);
        x.done("hold", 0, 5, 0, 1);
        x.due(NOTHING, "ask", 0, 0);
    }

    private static void vaults() {
        says("VAULT: 7, SHUT: TROUBLE.");
        Run x = new Run();
        x.done("part", VAULT);
        x.due(7, "ask", 0, 0).due(0, "lock", 0, true).due(TROUBLE, "ask", 0, 0).due(1, "fails", 6).due(1, "fails", 0);
        x.due(1, "lock", 0, false).due(7, "ask", 0, 0);
        x.done("hold", 0, 7, 0, 0);
        x.due(7, "ask", 0, 0).due(1, "fails", 0);
    }

    /**
     * PARTS 0 .. length - 1 of a class, each the one before's INNER (DEEP), LEFT (side 0) or RIGHT (side 1), all else
     * that SIZE needs there; PART length is an open VAULT, ROW length + 1 has 1 ITEM, TABLE length + 2 has 1 SPOT.
     * What the last one of the chain has at that side is PART length + 3, of class last.
     */
    private static Run chain(int cls, int side, int length, int last) {
        Run x = new Run();
        for (int p = 0; p < length; p++) {
            x.done("part", cls);
        }
        x.done("part", VAULT);
        x.done("row", 4, 1);
        x.done("array", 5, 1);
        x.done("part", last);
        for (int p = 0; p < length; p++) {
            int next = p + 1 < length ? p + 1 : length + 3;
            if (cls == DEEP) {
                x.done("hold", p, 1, 0, length + 1);
                x.done("hold", p, 3, 1, next);
            } else {
                x.done("hold", p, 5, side, next);
                x.done("hold", p, 5, 1 - side, length);
            }
            if (cls == BANK) {
                x.done("hold", p, 6, 0, length + 2);
            }
        }
        return x;
    }

    private static void tenWithinOneAnother() {
        says("a SIZE of another PART that would be the 11th within one another is FAR",
            "the outermost is the first");
        chain(DEEP, 0, 9, NORM).due(1, "hold", 12, 4, 0, 10).due(9 + 2, "ask", 0, 0).due(22, "ask", 0, 2);
        chain(DEEP, 0, 10, NORM).due(1, "hold", 13, 4, 0, 11).due(FAR, "ask", 0, 0).due(FAR, "ask", 0, 2)
            .due(9 + 2, "ask", 1, 0).due(2, "fails", 7).due(2, "fails", 0);
        for (int side = 0; side < 2; side++) {
            chain(BLOCK, side, 9, VAULT).due(70, "ask", 0, 0).due(140, "ask", 0, 2);
            chain(BLOCK, side, 10, VAULT).due(FAR, "ask", 0, 0).due(70, "ask", 1, 0).due(FAR, "ask", 0, 2)
                .due(2, "fails", 7);
            chain(BANK, side, 9, VAULT).due(79, "ask", 0, 0);
            chain(BANK, side, 10, VAULT).due(FAR, "ask", 0, 0).due(79, "ask", 1, 0).due(1, "fails", 7);
        }
    }

    private static void eleventhIsNotLookedAt() {
        says("is FAR, before anything of it is looked at");
        chain(DEEP, 0, 9, LAYER).due(NOTHING, "ask", 0, 0);
        chain(DEEP, 0, 10, LAYER).due(FAR, "ask", 0, 0).due(NOTHING, "ask", 1, 0);
        chain(DEEP, 0, 9, LAYER).due(1, "hold", 12, 1, 0, 12).due(KIND, "ask", 0, 0);
        chain(DEEP, 0, 10, LAYER).due(1, "hold", 13, 1, 0, 13).due(FAR, "ask", 0, 0).due(KIND, "ask", 1, 0);
        for (int side = 0; side < 2; side++) {
            chain(BLOCK, side, 9, VAULT).due(0, "lock", 12, true).due(TROUBLE, "ask", 0, 0);
            chain(BLOCK, side, 10, VAULT).due(0, "lock", 13, true).due(FAR, "ask", 0, 0).due(TROUBLE, "ask", 1, 0);
            chain(BLOCK, side, 9, NORM).due(NOTHING, "ask", 0, 0);
            chain(BLOCK, side, 10, NORM).due(FAR, "ask", 0, 0);
            chain(BANK, side, 10, BLOCK).due(FAR, "ask", 0, 0).due(NOTHING, "ask", 1, 0);
        }
    }

    /** Where there is no PART none is the 11th. */
    private static void bareTenth() {
        says("SIZE of INNER (NOTHING)");
        chain(DEEP, 0, 10, NORM).due(1, "hold", 9, 3, 1, -1).due(NOTHING, "ask", 0, 0);
        chain(BLOCK, 0, 10, VAULT).due(1, "hold", 9, 5, 0, -1).due(NOTHING, "ask", 0, 0);
        chain(BLOCK, 1, 10, VAULT).due(1, "hold", 9, 5, 0, -1).due(NOTHING, "ask", 0, 0);
        chain(BLOCK, 0, 10, VAULT).due(1, "hold", 9, 5, 1, -1).due(FAR, "ask", 0, 0);
        chain(BANK, 0, 10, VAULT).due(1, "hold", 9, 6, 0, -1).due(FAR, "ask", 0, 0);
    }

    private static void partsOfTheSameOne() {
        says("(SIZES as of what stands above are parts of the same one");
        chain(DEEP, 0, 9, DENSE).due(1, "hold", 12, 1, 0, 10).due(10, "ask", 0, 0);
        chain(DEEP, 0, 9, LAYER).due(1, "hold", 12, 1, 0, 10).due(10, "ask", 0, 0);
        chain(BANK, 0, 9, DENSE).due(1, "hold", 12, 1, 0, 10).due(9 * 8 + 1, "ask", 0, 0);
        chain(DEEP, 0, 9, DEEP).due(1, "hold", 12, 1, 0, 10).due(NOTHING, "ask", 0, 0).due(1, "hold", 12, 3, 1, 12)
            .due(FAR, "ask", 0, 0);
    }

    /** How many SIZES there are in all does not matter, only how many stand within one another. */
    private static void branches() {
        says("the 11th within one another");
        Run x = new Run();
        for (int p = 0; p < 9; p++) {
            x.done("part", BLOCK);
        }
        x.done("part", VAULT);
        for (int p = 0; p < 9; p++) {
            x.done("hold", p, 5, 0, p + 1);
            x.done("hold", p, 5, 1, p + 1);
        }
        x.due(512 * 7, "ask", 0, 0).due(1024 * 7, "ask", 0, 2);
        x.done("part", BLOCK);
        x.done("hold", 10, 5, 0, 9);
        x.done("hold", 10, 5, 1, 0);
        x.due(FAR, "ask", 10, 0);
        x.done("hold", 10, 5, 1, 1);
        x.due(7 + 256 * 7, "ask", 10, 0);
        x.due(512 * 7, "ask", 0, 0);
    }

    private static void rings() {
        says("is FAR");
        Run x = new Run();
        x.done("part", BLOCK);
        x.done("part", VAULT);
        x.done("part", DEEP);
        x.done("row", 0, 1);
        x.done("hold", 0, 5, 0, 0);
        x.due(FAR, "ask", 0, 0);
        x.done("hold", 0, 5, 0, 1);
        x.done("hold", 0, 5, 1, 0);
        x.due(FAR, "ask", 0, 0);
        x.done("lock", 1, true);
        x.due(TROUBLE, "ask", 0, 0);
        x.done("hold", 2, 3, 1, 2);
        x.due(NOTHING, "ask", 2, 0);
        x.done("hold", 2, 1, 0, 3);
        x.due(FAR, "ask", 2, 0).due(FAR, "ask", 2, 2).due(4, "fails", 7).due(6, "fails", 0);
        x.due(301, "ask", 2, 1).due(502, "ask", 0, 1);
    }

    private static void firstIsTold() {
        says("What comes first in this order is told.");
        chain(DEEP, 0, 10, NORM).due(1, "hold", 9, 1, 0, -1).due(NOTHING, "ask", 0, 0);
        chain(DEEP, 0, 10, NORM).due(1, "hold", 0, 1, 0, 10).due(KIND, "ask", 0, 0);
        chain(BLOCK, 1, 10, VAULT).due(1, "hold", 9, 5, 0, -1).due(NOTHING, "ask", 0, 0).due(0, "lock", 10, true)
            .due(TROUBLE, "ask", 0, 0);
        chain(BLOCK, 0, 10, VAULT).due(0, "lock", 10, true).due(FAR, "ask", 0, 0);
        chain(BANK, 1, 10, VAULT).due(1, "hold", 0, 6, 0, -1).due(FAR, "ask", 0, 0);
        chain(BANK, 1, 10, VAULT).due(1, "hold", 1, 6, 0, -1).due(FAR, "ask", 0, 0).due(NOTHING, "ask", 1, 0);
    }

    private static void titles() {
        says("TITLE, likewise: PART 100 times the class that it is made of; DENSE 1 more than TITLE as of what stands above it",
            "BLOCK 2 more, likewise; BANK three times that, likewise; others tell none.");
        int[] titles = {100, 201, 301, 400, 502, 1806, 700};
        Run x = new Run();
        for (int cls = 1; cls < 8; cls++) {
            int p = x.done("part", cls);
            x.due(titles[cls - 1], "ask", p, 1);
            x.done("hold", p, 0, 0, p);
            x.due(titles[cls - 1], "ask", p, 1);
        }
        x.done("lock", 6, true);
        x.due(700, "ask", 6, 1).due(0, "fails", 0);
    }

    private static void twice() {
        says("twice its SIZE, if it is a LAYER or BLOCK (2)",
            "of 2: neither LAYER nor BLOCK; then what SIZE finds");
        Run x = new Run();
        for (int cls = 1; cls < 8; cls++) {
            x.done("part", cls);
        }
        for (int p = 0; p < 6; p++) {
            x.due(NOTHING, "ask", p, 2).due(p + 1, "fails", 1).due(p + 1, "fails", 0);
        }
        x.due(CAST, "ask", 6, 2).due(0, "lock", 6, true).due(CAST, "ask", 6, 2).due(TROUBLE, "ask", 6, 0);
        x.due(2, "fails", 2).due(1, "fails", 6).due(9, "fails", 0);
        Run y = new Run();
        y.done("part", LAYER);
        y.done("row", 6, 24);
        y.done("row", 6, 0);
        y.done("hold", 0, 1, 0, 1);
        y.due(24, "ask", 0, 0).due(48, "ask", 0, 2);
        y.done("hold", 0, 1, 0, 2);
        y.due(0, "ask", 0, 0).due(0, "ask", 0, 2);
    }

    private static void refusals() {
        says("UNKNOWN, BAD; CAST: no PART");
        Run x = new Run();
        x.done("row", 0, 3);
        x.done("array", 0, 3);
        x.done("list");
        x.done("map");
        x.done("plain", 1);
        x.done("part", LAYER);
        int refused = 0;
        for (int p = 0; p < 5; p++) {
            for (int q = 0; q < 3; q++) {
                x.due(CAST, "ask", p, q);
                refused++;
                x.due(refused, "fails", 2);
            }
        }
        for (int q : outside(0, 2)) {
            x.due(BAD, "ask", 5, q).due(BAD, "ask", 0, q);
        }
        for (int p : outside(0, 5)) {
            x.due(UNKNOWN, "ask", p, 0).due(UNKNOWN, "ask", p, 1).due(UNKNOWN, "ask", p, 2);
        }
        x.due(refused, "fails", 0);
    }
}
