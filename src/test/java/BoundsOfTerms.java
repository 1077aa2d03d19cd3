import java.util.function.ToLongFunction;

/** The bounds that the document's terms name. */
final class BoundsOfTerms {
    private BoundsOfTerms() {
    }

    static void ask() {
        Doc.section("What it is");
        Doc.test("An object is used for at most 512 calls after it has been made; what later calls answer is free.",
                BoundsOfTerms::serves512Calls);
        Doc.section("Terms");
        Doc.test("All numbers are integers; divisions are truncated toward 0.", BoundsOfTerms::truncates);
        Doc.test("The picture has 16 columns and 10 rows, numbered from 0.", BoundsOfTerms::columnsAndRows);
        Doc.test("Each cell has a shade from 0 to 99, at first 50.", BoundsOfTerms::shades);
        areas();
        picks();
        texts();
        states();
    }

    private static void areas() {
        Doc.test("An area is found from a cell, with a likeness (0 to 99), a way of comparing and a gap (0 to 5):",
                BoundsOfTerms::leastAndMost);
        Doc.test("With the way 0, a cell is alike if its shade differs by at most the likeness from that of the first cell.",
                BoundsOfTerms::alikeByFirst);
        Doc.test("With the way 1, cells are alike that can be reached from the first cell by steps between cells that share "
                + "a side, such that in each step the shades of both cells differ by at most the likeness.",
                BoundsOfTerms::alikeBySteps);
        Doc.test("For a width w, a square is w + 1 columns wide and w + 1 rows high, lies in the picture, and has only alike "
                + "cells.", BoundsOfTerms::squares);
        Doc.test("Two squares are joined if they have a cell in common; with the width 0, if their cells share a side.",
                BoundsOfTerms::joins);
        Doc.test("The width that is used is the greatest one that is at most the gap, with which the first cell lies in a "
                + "square.", BoundsOfTerms::greatestWidth);
        Doc.test("(With the width 0, a square is one cell; so there always is one.)", BoundsOfTerms::alwaysOneSquare);
        Doc.test("The area has the cells of all squares that are joined, directly or through others, with a square in which "
                + "the first cell lies.", BoundsOfTerms::throughOthers);
        Doc.test("(So a passage that is not wider than the width does not lead on.)", BoundsOfTerms::passages);
        Doc.test("An area is made to levels with a softness s (0 to 4): a cell of the area has the level 100; another cell "
                + "has the level 100 * (s + 1 - d) / (s + 1) if its distance d from the area is at most s, otherwise 0.",
                BoundsOfTerms::softness);
        Doc.test("The distance is the least number of steps to a cell of the area, where a step leads to one of the eight "
                + "neighbors.", BoundsOfTerms::distances);
    }

    private static void picks() {
        Doc.test("There are at most 12 picks, numbered from 0 in the order in which they were made.",
                BoundsOfTerms::atMostTwelve);
        Doc.test("A pick has the levels that were found when it was made, a kind (0 replaces, 1 adds, 2 takes, 3 crosses), "
                + "and is in or out; at first it is in.", BoundsOfTerms::aPickHas);
        Doc.test("The mask is made from the picks that are in, in their order, beginning with the level 0 everywhere: a pick "
                + "with the level p in a cell replaces the level m of the mask by p, by the greater one of m and p, by the "
                + "lesser one of m and 100 - p, or by the lesser one of m and p.", BoundsOfTerms::masks);
        Doc.test("Filling with a shade v replaces the shade u of each cell by u + (v - u) * m / 100, where m is its level of "
                + "the mask.", BoundsOfTerms::filling);
        Doc.test("(Picks keep their levels when the picture changes.)", BoundsOfTerms::levelsStay);
    }

    private static void texts() {
        Doc.test("The buffer has at most 60 characters.", BoundsOfTerms::sixtyCharacters);
        Doc.test("A picture text is one or more rows, each written as its number (0 to 9), \":\", and 1 to 16 shades from "
                + "column 0 on: a digit d for the shade 11 * d, or \".\" for a shade that stays; rows are separated by "
                + "\"/\".", BoundsOfTerms::pictureTexts);
        Doc.test("A row can be written more than once.", BoundsOfTerms::rowsAgain);
        Doc.test("The buffer is read from left to right; a character is a syntax error if no picture text, of any length, "
                + "begins with the characters before it and this character.", BoundsOfTerms::syntaxErrors);
    }

    private static void states() {
        Doc.test("Each method that is marked \"undoable\" and does not throw an exception saves the state from before it "
                + "(also if it changes nothing): the picture and the picks.", BoundsOfTerms::savesState);
        Doc.test("At most 6 states are saved; the oldest one is dropped first.", BoundsOfTerms::sixStates);
        Doc.test("A call that throws an exception changes nothing.", BoundsOfTerms::refusedCallsChangeNothing);
        Doc.test("If several exceptions apply, the one that is named first in the throws clause is thrown.",
                BoundsOfTerms::theFirstNamed);
        Doc.test("The constants: `NONE = -1`: There is nothing to return.",
                () -> Check.same("NONE", AreaPicker.NONE, -1));
    }

    // ---- 512 calls

    private static void times512(String call, long due, ToLongFunction<AreaPicker> asks) {
        AreaPicker p = new AreaPicker();
        long last = 0;
        for (int i = 0; i < 512; i++) {
            last = asks.applyAsLong(p);
        }
        Check.same("the 512th " + call, last, due);
    }

    private static void serves512Calls() {
        times512("draw", 0, p -> p.draw(0, 0, 15, 9, 7));
        times512("fill", 0, p -> p.fill(99));
        times512("clean", 0, AreaPicker::clean);
        times512("count(8)", 0, p -> p.count(8));
        times512("areaOf", 160, p -> p.areaOf(15, 9, 99, 1, 5));
        times512("leastLikeness", 0, p -> p.leastLikeness(0, 0, 15, 9, 1, 5));
        times512("digest", new AreaPicker().digest(), AreaPicker::digest);
        AreaPicker p = new AreaPicker();
        for (int i = 0; i < 255; i++) {
            p.pick(i % 16, i % 10, 0, 0, 5, 40);
            p.undo();
        }
        Check.same("the 511th call, pick", p.pick(15, 9, 99, 1, 5, 43), 160);
        Check.same("the 512th call", p.picked(0, 11), 16000);
        AreaPicker q = new AreaPicker();
        for (int i = 0; i < 511; i++) {
            q.draw(0, 0, 0, 0, i % 100);
        }
        Check.same("the 512th call, undo after 511 draws", q.undo(), 5);
        AreaPicker r = new AreaPicker();
        for (int i = 0; i < 60; i++) {
            r.append(33);
        }
        for (int i = 60; i < 511; i++) {
            Bound.throwsJust("the call " + i + ", append", Check.STATE, () -> r.append(33));
        }
        Check.same("the 512th call, clearBuffer", r.clearBuffer(), 60);
    }

    // ---- the picture

    private static void truncates() {
        int[][] fills = {{47, 50, 49}, {53, 50, 51}, {46, 49, 48}, {54, 51, 52}, {49, 50, 50}, {51, 50, 50}};
        for (int[] f : fills) {
            AreaPicker p = new AreaPicker();
            p.draw(3, 3, 3, 3, 0);
            p.pick(3, 3, 0, 0, 0, 20);
            Check.same("100 * 2 / 3", p.level(0, 4, 4), 66);
            Check.same("100 * 1 / 3", p.level(0, 5, 5), 33);
            p.fill(f[0]);
            Check.same("50 filled with " + f[0] + " through 33", p.cell(5, 5, 0), f[1]);
            Check.same("50 filled with " + f[0] + " through 66", p.cell(4, 4, 0), f[2]);
        }
    }

    private static void columnsAndRows() {
        AreaPicker p = new AreaPicker();
        Check.same("draw(0, 0, 15, 9, 1)", p.draw(0, 0, 15, 9, 1), 160);
        for (int x = -2; x <= 18; x++) {
            for (int y = -2; y <= 12; y++) {
                int column = x;
                int row = y;
                boolean there = x >= 0 && x <= 15 && y >= 0 && y <= 9;
                Check.sameText("cell(" + x + ", " + y + ", 0)", Bound.answer(() -> p.cell(column, row, 0)),
                        there ? "1" : "throws." + Check.INDEX);
            }
        }
    }

    private static void shades() {
        AreaPicker p = new AreaPicker();
        for (int cell = 0; cell < 160; cell++) {
            Check.same("new cell(" + cell % 16 + ", " + cell / 16 + ", 0)", p.cell(cell % 16, cell / 16, 0), 50);
        }
        p.draw(0, 0, 0, 0, 0);
        p.draw(15, 9, 15, 9, 99);
        Check.same("cell(0, 0, 0) drawn with 0", p.cell(0, 0, 0), 0);
        Check.same("cell(15, 9, 0) drawn with 99", p.cell(15, 9, 0), 99);
        p.pick(8, 5, 99, 0, 0, 0);
        p.fill(99);
        Check.same("sum of 99 everywhere", p.count(6), 160 * 99);
        p.fill(0);
        Check.same("sum of 0 everywhere", p.count(6), 0);
        Bound.refused("draw with 100", Check.ARGUMENT, Given::busy, q -> q.draw(0, 0, 0, 0, 100));
        Bound.refused("draw with -1", Check.ARGUMENT, Given::busy, q -> q.draw(0, 0, 0, 0, -1));
    }

    // ---- areas

    private static void leastAndMost() {
        AreaPicker p = new AreaPicker();
        p.draw(0, 0, 0, 0, 0);
        p.draw(1, 0, 1, 0, 99);
        int[][] asked = {{0, 0, 0, 1}, {0, 0, 5, 1}, {0, 1, 0, 1}, {0, 1, 5, 1}, {98, 0, 0, 159}, {98, 0, 5, 159},
            {98, 1, 0, 160}, {99, 0, 0, 160}, {99, 0, 5, 160}, {99, 1, 0, 160}, {99, 1, 5, 160}};
        for (int[] a : asked) {
            Check.same("areaOf(0, 0, " + a[0] + ", " + a[1] + ", " + a[2] + ")", p.areaOf(0, 0, a[0], a[1], a[2]), a[3]);
        }
        Bound.refusesOthers("likeness", Given::busy, 0, 99, Check.ARGUMENT, (q, n) -> q.areaOf(0, 0, n, 0, 0));
        Bound.refusesOthers("gap", Given::busy, 0, 5, Check.ARGUMENT, (q, n) -> q.areaOf(0, 0, 0, 0, n));
    }

    private static void alikeByFirst() {
        AreaPicker p = new AreaPicker();
        p.draw(0, 0, 15, 9, 0);
        p.draw(8, 5, 8, 5, 50);
        p.draw(7, 5, 7, 5, 40);
        p.draw(9, 5, 9, 5, 60);
        p.draw(8, 4, 8, 4, 39);
        p.draw(8, 6, 8, 6, 61);
        int[][] due = {{0, 1}, {9, 1}, {10, 3}, {11, 5}, {49, 5}, {50, 160}, {99, 160}};
        for (int[] d : due) {
            Check.same("areaOf(8, 5, " + d[0] + ", 0, 0)", p.areaOf(8, 5, d[0], 0, 0), d[1]);
        }
        AreaPicker chain = chain();
        Check.same("from 50 over 55 to 60", chain.areaOf(3, 3, 5, 0, 0), 2);
        Check.same("from 55 to both", chain.areaOf(4, 3, 5, 0, 0), 3);
        Check.same("from 60 over 55 to 50", chain.areaOf(5, 3, 5, 0, 0), 2);
        Check.same("from 50 with 4", chain.areaOf(3, 3, 4, 0, 0), 1);
        Check.same("from 50 with 10", chain.areaOf(3, 3, 10, 0, 0), 3);
    }

    /** The shades 50, 55, 60 side by side among 99. */
    private static AreaPicker chain() {
        AreaPicker p = new AreaPicker();
        p.draw(0, 0, 15, 9, 99);
        for (int i = 0; i < 3; i++) {
            p.draw(3 + i, 3, 3 + i, 3, 50 + 5 * i);
        }
        return p;
    }

    private static void alikeBySteps() {
        AreaPicker chain = chain();
        Check.same("up from 50 over 55 to 60", chain.areaOf(3, 3, 5, 1, 0), 3);
        Check.same("down from 60 over 55 to 50", chain.areaOf(5, 3, 5, 1, 0), 3);
        Check.same("steps of 5 with 4", chain.areaOf(3, 3, 4, 1, 0), 1);
        chain.draw(6, 4, 6, 4, 60);
        Check.same("no step over a corner", chain.areaOf(5, 3, 5, 1, 0), 3);
        AreaPicker edge = new AreaPicker();
        edge.draw(15, 3, 15, 3, 7);
        edge.draw(0, 4, 0, 4, 7);
        edge.draw(5, 0, 5, 0, 9);
        edge.draw(5, 9, 5, 9, 9);
        Check.same("no step from the last column to the next row", edge.areaOf(15, 3, 0, 1, 0), 1);
        Check.same("nor from the first column back", edge.areaOf(0, 4, 0, 1, 0), 1);
        Check.same("nor from the first row to the last", edge.areaOf(5, 0, 0, 1, 0), 1);
        Check.same("nor back", edge.areaOf(5, 9, 0, 1, 0), 1);
        AreaPicker around = new AreaPicker();
        around.draw(0, 0, 0, 0, 0);
        around.draw(1, 0, 1, 0, 99);
        Check.same("0 and 99 side by side, around over 50", around.areaOf(0, 0, 50, 1, 0), 160);
        Check.same("both are alike then: a square has both", around.areaOf(0, 0, 50, 1, 5), 160);
        Check.same("not with 49", around.areaOf(0, 0, 49, 1, 0), 1);
        Check.same("from 99 with 49: all but the 0", around.areaOf(1, 0, 49, 1, 0), 159);
        Check.same("from 99 with 48", around.areaOf(1, 0, 48, 1, 0), 1);
    }

    private static void squares() {
        for (int n = 1; n <= 6; n++) {
            roomsInCorners(n, n, n - 1);
            if (n > 1) {
                roomsInCorners(n, n - 1, n - 2);
                roomsInCorners(n - 1, n, n - 2);
            }
        }
        AreaPicker hole = new AreaPicker();
        hole.draw(0, 0, 15, 9, 0);
        hole.draw(0, 0, 5, 5, 50);
        hole.draw(5, 5, 5, 5, 0);
        widthAndArea(hole, "6 by 6 without a corner", 0, 0, 4, 35);
        AreaPicker sides = new AreaPicker();
        sides.draw(15, 0, 15, 9, 0);
        sides.draw(0, 0, 0, 9, 0);
        widthAndArea(sides, "the last column goes not on in the first", 15, 4, 0, 10);
        sides.draw(14, 0, 14, 9, 0);
        widthAndArea(sides, "the last two columns", 15, 9, 1, 20);
        AreaPicker ends = new AreaPicker();
        ends.draw(0, 0, 15, 0, 0);
        ends.draw(0, 9, 15, 9, 0);
        widthAndArea(ends, "the last row goes not on in the first", 8, 9, 0, 16);
        ends.draw(0, 8, 15, 8, 0);
        widthAndArea(ends, "the last two rows", 15, 9, 1, 32);
    }

    private static void roomsInCorners(int wide, int high, int width) {
        for (int corner = 0; corner < 4; corner++) {
            AreaPicker p = new AreaPicker();
            int x = corner % 2 == 0 ? 0 : 15;
            int y = corner / 2 == 0 ? 0 : 9;
            int u = corner % 2 == 0 ? wide - 1 : 16 - wide;
            int v = corner / 2 == 0 ? high - 1 : 10 - high;
            p.draw(x, y, u, v, 0);
            widthAndArea(p, wide + " by " + high + " at (" + x + ", " + y + ")", x, y, width, wide * high);
            widthAndArea(p, wide + " by " + high + " at (" + x + ", " + y + ") from within", u, v, width, wide * high);
        }
    }

    private static void widthAndArea(AreaPicker p, String what, int x, int y, int width, int area) {
        int number = p.count(0);
        Check.same(what + ": the area with the gap 5", p.pick(x, y, 0, 0, 5, 0), area);
        Check.same(what + ": the width", p.picked(number, 8), width);
    }

    private static void joins() {
        AreaPicker single = Given.picture("0...............", ".0..............");
        Check.same("width 0, a corner", single.areaOf(0, 0, 0, 0, 0), 1);
        single.draw(1, 0, 1, 0, 0);
        Check.same("width 0, a side", single.areaOf(0, 0, 0, 0, 0), 3);
        for (int n = 2; n <= 6; n++) {
            if (n < 6) {
                AreaPicker corner = new AreaPicker();
                corner.draw(0, 0, n - 1, n - 1, 0);
                corner.draw(n - 1, n - 1, 2 * n - 2, 2 * n - 2, 0);
                Check.same("width " + (n - 1) + ", one cell in common", corner.areaOf(0, 0, 0, 0, n - 1), 2 * n * n - 1);
                Check.same("and back", corner.areaOf(2 * n - 2, 2 * n - 2, 0, 0, n - 1), 2 * n * n - 1);
            }
            AreaPicker side = new AreaPicker();
            side.draw(0, 0, n - 1, n - 1, 0);
            side.draw(n, 1, 2 * n - 1, n, 0);
            Check.same("width " + (n - 1) + ", only sides in common", side.areaOf(0, 0, 0, 0, n - 1), n * n);
            Check.same("from the other one", side.areaOf(n, n, 0, 0, n - 1), n * n);
            Check.same("width " + (n - 2) + ", through one between", side.areaOf(0, 0, 0, 0, n - 2), 2 * n * n);
        }
    }

    private static void greatestWidth() {
        AreaPicker whole = new AreaPicker();
        int[][] cells = {{0, 0}, {15, 0}, {0, 9}, {15, 9}, {8, 5}};
        for (int gap = 0; gap <= 5; gap++) {
            for (int i = 0; i < cells.length; i++) {
                whole.pick(cells[i][0], cells[i][1], 0, 0, gap, 0);
                Check.same("width in the whole picture, gap " + gap, whole.picked(whole.count(0) - 1, 8), gap);
                whole.undo();
            }
        }
        for (int room = 1; room <= 6; room++) {
            AreaPicker p = new AreaPicker();
            p.draw(5, 3, 4 + room, 2 + room, 0);
            for (int gap = 0; gap <= 5; gap++) {
                p.pick(5, 3, 0, 0, gap, 0);
                Check.same("width in a room of " + room + ", gap " + gap, p.picked(gap, 8), Math.min(gap, room - 1));
            }
        }
        AreaPicker tail = Given.picture("000.............", "0000............", "000.............");
        tail.pick(3, 1, 0, 0, 5, 0);
        Check.same("width at the tail", tail.picked(0, 8), 0);
        Check.same("area from the tail", tail.areaOf(3, 1, 0, 0, 5), 10);
        tail.pick(2, 1, 0, 0, 5, 0);
        Check.same("width beside the tail", tail.picked(1, 8), 2);
        Check.same("area from beside the tail", tail.areaOf(2, 1, 0, 0, 5), 9);
        AreaPicker passage = Given.wallWithPassage(2);
        passage.pick(7, 2, 0, 0, 5, 0);
        Check.same("width in a passage of 2", passage.picked(0, 8), 1);
        Check.same("area from the passage", passage.areaOf(7, 2, 0, 0, 5), 152);
    }

    private static void alwaysOneSquare() {
        int[][] cells = {{0, 0}, {15, 0}, {0, 9}, {15, 9}, {8, 5}};
        for (int[] c : cells) {
            for (int way = 0; way <= 1; way++) {
                AreaPicker p = Given.spot(c[0], c[1]);
                Check.same("the area of one cell", p.pick(c[0], c[1], 0, way, 5, 0), 1);
                Check.same("its width", p.picked(0, 8), 0);
            }
        }
    }

    private static void throughOthers() {
        AreaPicker stairs = new AreaPicker();
        for (int i = 0; i < 9; i++) {
            stairs.draw(i, i, i + 1, i + 1, 0);
        }
        Check.same("nine squares, each joined at a corner", stairs.areaOf(0, 0, 0, 0, 1), 28);
        Check.same("from the last one", stairs.areaOf(9, 9, 0, 0, 1), 28);
        Check.same("from a cell that two have", stairs.areaOf(5, 5, 0, 0, 1), 28);
        AreaPicker two = Given.picture("00.00...........", "00.00...........");
        Check.same("squares that are not joined", two.areaOf(0, 0, 0, 0, 1), 4);
        two.draw(2, 0, 2, 1, 0);
        Check.same("joined through two others", two.areaOf(0, 0, 0, 0, 1), 10);
        AreaPicker both = Given.picture("000.............", "000.............", "0...............");
        Check.same("all squares with the first cell, and no cell else", both.areaOf(1, 0, 0, 0, 1), 6);
        AreaPicker winding = Given.picture("0000000000000000", "...............0", "0000000000000000", "0...............",
                "0000000000000000", "...............0", "0000000000000000", "0...............", "0000000000000000",
                "...............0");
        Check.same("a winding passage", winding.areaOf(0, 0, 0, 0, 0), 85);
        Check.same("a winding passage by steps", winding.areaOf(15, 9, 0, 1, 0), 85);
        Check.same("a winding passage with the gap 5", winding.areaOf(0, 0, 0, 0, 5), 85);
    }

    private static void passages() {
        for (int rows = 1; rows <= 5; rows++) {
            AreaPicker p = Given.wallWithPassage(rows);
            for (int gap = 0; gap <= 5; gap++) {
                Check.same("a passage of " + rows + " rows, gap " + gap, p.areaOf(0, 0, 0, 0, gap),
                        gap < rows ? 150 + rows : 70);
                Check.same("a passage of " + rows + " rows, gap " + gap + ", by steps", p.areaOf(0, 0, 0, 1, gap),
                        gap < rows ? 150 + rows : 70);
            }
        }
        for (int columns = 1; columns <= 3; columns++) {
            AreaPicker p = new AreaPicker();
            p.draw(0, 4, 15, 4, 90);
            p.draw(6, 4, 5 + columns, 4, 50);
            for (int gap = 0; gap <= 3; gap++) {
                Check.same("a passage of " + columns + " columns, gap " + gap, p.areaOf(0, 0, 0, 0, gap),
                        gap < columns ? 144 + columns : 64);
            }
        }
    }

    private static void softness() {
        int[][] due = {{100, 0}, {100, 50, 0}, {100, 66, 33, 0}, {100, 75, 50, 25, 0}, {100, 80, 60, 40, 20, 0}};
        for (int s = 0; s <= 4; s++) {
            AreaPicker p = Given.spot(8, 5);
            p.pick(8, 5, 0, 0, 0, 10 * s);
            for (int d = 0; d <= s + 1; d++) {
                int[][] cells = {{8 - d, 5}, {8 + d, 5}, {8, Math.max(5 - d, 0)}};
                for (int[] c : cells) {
                    Check.same("softness " + s + ", level(0, " + c[0] + ", " + c[1] + ")", p.level(0, c[0], c[1]), due[s][d]);
                }
            }
            Check.same("softness " + s + ", far away", p.level(0, 0, 0), 0);
        }
        AreaPicker whole = new AreaPicker();
        whole.pick(0, 0, 0, 0, 0, 40);
        Check.same("softness 4, the whole picture", whole.picked(0, 11), 16000);
    }

    private static void distances() {
        AreaPicker p = Given.spot(8, 5);
        p.pick(8, 5, 0, 0, 0, 40);
        for (int x = 0; x < 16; x++) {
            for (int y = 0; y < 10; y++) {
                int d = Math.max(Math.abs(x - 8), Math.abs(y - 5));
                Check.same("level(0, " + x + ", " + y + ")", p.level(0, x, y), d <= 4 ? 100 - 20 * d : 0);
            }
        }
        int[][] corners = {{0, 0}, {15, 0}, {0, 9}, {15, 9}, {15, 4}, {0, 4}};
        for (int[] c : corners) {
            AreaPicker q = Given.spot(c[0], c[1]);
            q.pick(c[0], c[1], 0, 0, 0, 40);
            for (int cell = 0; cell < 160; cell++) {
                int d = Math.max(Math.abs(cell % 16 - c[0]), Math.abs(cell / 16 - c[1]));
                Check.same("from (" + c[0] + ", " + c[1] + ") level(0, " + cell % 16 + ", " + cell / 16 + ")",
                        q.level(0, cell % 16, cell / 16), d <= 4 ? 100 - 20 * d : 0);
            }
        }
        AreaPicker angle = new AreaPicker();
        angle.draw(2, 2, 9, 2, 0);
        angle.draw(2, 2, 2, 8, 0);
        angle.pick(2, 2, 0, 0, 0, 40);
        int[][] due = {{3, 3, 80}, {4, 4, 60}, {5, 5, 40}, {6, 6, 20}, {7, 7, 0}, {9, 6, 20}, {13, 2, 20}, {14, 2, 0},
            {13, 6, 20}, {5, 8, 40}, {0, 0, 60}};
        for (int[] d : due) {
            Check.same("beside an angle, level(0, " + d[0] + ", " + d[1] + ")", angle.level(0, d[0], d[1]), d[2]);
        }
    }

    // ---- picks

    private static void atMostTwelve() {
        AreaPicker p = new AreaPicker();
        for (int i = 0; i < 12; i++) {
            Bound.throwsJust("picked(" + i + ", 0) ahead of it", Check.INDEX, () -> p.picked(p.count(0), 0));
            p.pick(15 - i, 9, 0, 0, 0, 0);
            Check.same("picks", p.count(0), i + 1);
        }
        for (int i = 0; i < 12; i++) {
            Check.same("picked(" + i + ", 0)", p.picked(i, 0), 15 - i);
        }
        Bound.refused("the 13th pick", Check.STATE, Given::twelve, q -> q.pick(0, 0, 0, 0, 0, 0));
    }

    private static void aPickHas() {
        for (int kind = 0; kind <= 3; kind++) {
            for (int softness = 0; softness <= 4; softness++) {
                AreaPicker p = Given.spot(8, 5);
                p.pick(8, 5, 0, 0, 0, 10 * softness + kind);
                Check.same("kind", p.picked(0, 5), kind);
                Check.same("softness", p.picked(0, 6), softness);
                Check.same("in at first", p.picked(0, 7), 1);
                Check.same("picks that are in", p.count(1), 1);
                p.draw(0, 0, 15, 9, 7);
                Check.same("cells with the level 100", p.picked(0, 9), 1);
                p.toggle(0);
                Check.same("out then", p.picked(0, 7), 0);
                Check.same("cells with the level 100 when it is out", p.picked(0, 9), 1);
            }
        }
    }

    private static int mixed(int kind, int m, int p) {
        switch (kind) {
            case 0:
                return p;
            case 1:
                return m > p ? m : p;
            case 2:
                return m < 100 - p ? m : 100 - p;
            default:
                return m < p ? m : p;
        }
    }

    private static void masks() {
        for (int m : Given.levels()) {
            AreaPicker picker = Given.sources();
            Given.pickLevel(picker, m, 0);
            for (int p : Given.levels()) {
                Given.pickLevel(picker, p, 0);
                Check.same("level(1, 8, 5)", picker.level(1, 8, 5), p);
                for (int kind = 0; kind <= 3; kind++) {
                    picker.setKind(1, kind);
                    Check.same("kind " + kind + " with " + p + " over " + m, picker.cell(8, 5, 1), mixed(kind, m, p));
                }
                picker.toggle(1);
                Check.same("out over " + m, picker.cell(8, 5, 1), m);
                picker.clean();
            }
        }
        for (int p : Given.levels()) {
            for (int kind = 0; kind <= 3; kind++) {
                AreaPicker alone = Given.sources();
                Given.pickLevel(alone, p, kind);
                Check.same("kind " + kind + " with " + p + " over nothing", alone.cell(8, 5, 1), mixed(kind, 0, p));
            }
        }
        AreaPicker order = Given.sources();
        Given.pickLevel(order, 100, 1);
        Given.pickLevel(order, 80, 2);
        Given.pickLevel(order, 60, 1);
        Check.same("100, 80 taken, 60 added", order.cell(8, 5, 1), 60);
        order.reorder(1, 2);
        Check.same("100, 60 added, 80 taken", order.cell(8, 5, 1), 20);
        order.reorder(2, 0);
        Check.same("80 taken, 100, 60 added", order.cell(8, 5, 1), 100);
        order.toggle(1);
        Check.same("80 taken, 60 added", order.cell(8, 5, 1), 60);
        Check.same("the mask of no picks", new AreaPicker().count(4), 0);
    }

    private static void filling() {
        int[] shades = {0, 1, 49, 50, 51, 98, 99};
        for (int m : Given.levels()) {
            for (int u : shades) {
                AreaPicker p = Given.sources();
                Given.pickLevel(p, m, 0);
                for (int v : shades) {
                    p.draw(8, 5, 8, 5, u);
                    p.fill(v);
                    int up = (v - u) * m / 100;
                    Check.same(u + " filled with " + v + " through " + m, p.cell(8, 5, 0), u + up);
                    p.undo();
                    Check.same("undo", p.cell(8, 5, 0), u);
                }
            }
        }
        AreaPicker by = Given.sources();
        Given.pickLevel(by, 33, 0);
        by.draw(8, 5, 8, 5, 99);
        by.fill(0);
        Check.same("99 + -99 * 33 / 100", by.cell(8, 5, 0), 67);
        by.fill(99);
        Check.same("67 + 32 * 33 / 100", by.cell(8, 5, 0), 77);
    }

    private static void levelsStay() {
        AreaPicker p = Given.spot(8, 5);
        p.pick(8, 5, 0, 0, 0, 40);
        p.draw(0, 0, 15, 9, 10);
        levelsOfSpot(p, "draw");
        p.fill(99);
        levelsOfSpot(p, "fill");
        Given.type(p, "5:0123456789");
        p.load();
        levelsOfSpot(p, "load");
        Check.same("a pick from there finds what is there now", p.pick(8, 5, 0, 0, 0, 0), 1);
        p.undo();
        p.undo();
        levelsOfSpot(p, "undo");
        Check.same("the mask", p.count(4), 3300);
    }

    private static void levelsOfSpot(AreaPicker p, String when) {
        Check.same("levels after " + when, p.picked(0, 11), 3300);
        for (int d = 0; d <= 5; d++) {
            Check.same("level at " + d + " after " + when, p.level(0, 8 - d, 5), 100 - 20 * d);
        }
    }

    // ---- texts

    private static void sixtyCharacters() {
        AreaPicker p = new AreaPicker();
        for (int i = 1; i <= 60; i++) {
            Check.same("append", p.append(126), i);
        }
        Bound.throwsJust("append of the 61st", Check.STATE, () -> p.append(126));
        Check.same("clearBuffer", p.clearBuffer(), 60);
        Check.same("append then", p.append(126), 1);
    }

    private static void loaded(String text, int changed) {
        AreaPicker p = Given.typed(text);
        Check.sameText("load of " + text, Bound.answer(p::load), "" + changed);
    }

    private static void notLoaded(String text) {
        Bound.refused("load of \"" + text + "\"", Check.ARGUMENT, () -> Given.typed(text), AreaPicker::load);
    }

    private static void pictureTexts() {
        for (int row = 0; row <= 9; row++) {
            AreaPicker p = Given.typed(row + ":.7");
            p.load();
            Check.same("the row " + row, p.cell(1, row, 0), 77);
            Check.same("the stop in the row " + row, p.cell(0, row, 0), 50);
        }
        for (int shade = 0; shade <= 9; shade++) {
            AreaPicker p = Given.typed("0:" + shade);
            p.load();
            Check.same("the digit " + shade, p.cell(0, 0, 0), 11 * shade);
        }
        for (int shades = 1; shades <= 16; shades++) {
            AreaPicker p = Given.typed("9:" + "1".repeat(shades));
            Check.same(shades + " shades", p.load(), shades);
            Check.same("the last of " + shades, p.cell(shades - 1, 9, 0), 11);
            Check.same("the sum of " + shades, p.count(6), 8000 - 39 * shades);
            loaded("9:" + ".".repeat(shades), 0);
        }
        loaded("0:1/9:1", 2);
        String[] wrong = {"", "0", "0:", "0:11111111111111111", "0:................1", "0:1/", "/0:1", "0:1//1:1", "0:1/1",
            "0:1/1:", "0:1/1:11111111111111111", "10:1", "-1:1", "a:1", ".:1", ":1", "0.1", "0;1", "0:a", "0:1,1", "0:1:1",
            "0:1 1:1".replace(' ', '|'), "0:1/1:1/"};
        for (String text : wrong) {
            notLoaded(text);
        }
    }

    private static void rowsAgain() {
        AreaPicker p = Given.typed("0:1/0:2");
        Check.same("twice", p.load(), 1);
        Check.same("the later one stays", p.cell(0, 0, 0), 22);
        AreaPicker q = Given.typed("3:1/4:1/3:.2/3:..3/3:4");
        Check.same("four times, another between", q.load(), 4);
        int[] due = {44, 22, 33, 50};
        for (int x = 0; x < due.length; x++) {
            Check.same("cell(" + x + ", 3, 0)", q.cell(x, 3, 0), due[x]);
        }
        AreaPicker r = Given.typed("7:1/".repeat(14) + "7:9");
        Check.same("fifteen times", r.load(), 1);
        Check.same("the last one stays", r.cell(0, 7, 0), 99);
    }

    private static void syntaxErrors() {
        String digits = "0123456789";
        String[][] allowed = {
            {"", digits}, {"0", ":"}, {"9", ":"}, {"0:", digits + "."}, {"0:1", digits + "./"}, {"0:.", digits + "./"},
            {"0:11111111111111", digits + "./"}, {"0:111111111111111", digits + "./"}, {"0:1111111111111111", "/"},
            {"0:................", "/"}, {"0:1/", digits}, {"0:1/0", ":"}, {"0:1/0:", digits + "."},
            {"0:1111111111111111/1:111111111111111", digits + "./"}, {"0:1111111111111111/1:1111111111111111", "/"},
        };
        for (String[] a : allowed) {
            for (char code = 33; code <= 126; code++) {
                int length = a[0].length();
                AreaPicker p = Given.typed(a[0] + code);
                Check.same("firstError of " + a[0] + code, p.firstError(), a[1].indexOf(code) >= 0 ? length + 1 : length);
                p.append('0');
                p.append(':');
                if (a[1].indexOf(code) < 0) {
                    Check.same("firstError of " + a[0] + code + "0:", p.firstError(), length);
                }
            }
        }
        String sixty = "0:1/".repeat(15);
        Check.same("60 characters that a longer text begins with", Given.typed(sixty).firstError(), 60);
        Check.same("60 characters with a row begun", Given.typed("0:12/" + "0:1/".repeat(13) + "0:1").firstError(), 60);
        Check.same("60 characters with a number begun", Given.typed("0:123/" + "0:1/".repeat(13) + "0:").firstError(), 60);
        Check.same("60 characters, the last one wrong", Given.typed(sixty.substring(1) + "0").firstError(), 0);
        Check.same("60 characters, the 60th wrong", Given.typed(sixty.substring(0, 59) + ":").firstError(), 59);
        Check.same("60 characters, the 59th wrong", Given.typed(sixty.substring(0, 58) + ":1").firstError(), 58);
        Check.same("what follows an error", Given.typed("x0:1").firstError(), 0);
        Check.same("nothing", new AreaPicker().firstError(), 0);
    }

    // ---- saved states and refused calls

    private static void savesState() {
        Bound.undoable("draw", Given::calm, p -> p.draw(0, 0, 15, 9, 33));
        Bound.undoable("draw of nothing new", Given::calm, p -> p.draw(6, 6, 7, 7, 3));
        Bound.undoable("fill", Given::calm, p -> p.fill(99));
        Bound.undoable("fill without picks", AreaPicker::new, p -> p.fill(99));
        Bound.undoable("pick", Given::calm, p -> p.pick(8, 5, 10, 1, 2, 33));
        Bound.undoable("toggle", Given::calm, p -> p.toggle(0));
        Bound.undoable("setKind", Given::calm, p -> p.setKind(0, 3));
        Bound.undoable("setKind to the same", Given::calm, p -> p.setKind(1, 1));
        Bound.undoable("reorder", Given::calm, p -> p.reorder(0, 2));
        Bound.undoable("reorder to the same", Given::calm, p -> p.reorder(1, 1));
        Bound.undoable("clean", Given::calm, AreaPicker::clean);
        Bound.undoable("clean of nothing", AreaPicker::new, AreaPicker::clean);
        Bound.undoable("load", BoundsOfTerms::calmWithoutText, BoundsOfTerms::typeAndLoad);
        Bound.undoable("load of stops", BoundsOfTerms::calmWithoutText, p -> {
            Given.type(p, "0:.");
            return p.load();
        });
        AreaPicker p = Given.calm();
        p.clearBuffer();
        p.draw(0, 0, 0, 0, 99);
        Given.type(p, "0:1");
        p.undo();
        Check.same("the buffer is not saved", p.clearBuffer(), 3);
        notSaved();
    }

    private static AreaPicker calmWithoutText() {
        AreaPicker p = Given.calm();
        p.clearBuffer();
        return p;
    }

    private static long typeAndLoad(AreaPicker p) {
        Given.type(p, "0:123/9:...4");
        return p.load();
    }

    private static void notSaved() {
        Bound.notUndoable("append", Given::calm, p -> p.append('0'));
        Bound.notUndoable("clearBuffer", Given::calm, AreaPicker::clearBuffer);
        Bound.notUndoable("firstError", Given::calm, AreaPicker::firstError);
        Bound.notUndoable("cell", Given::calm, p -> p.cell(0, 0, 1));
        Bound.notUndoable("picked", Given::calm, p -> p.picked(0, 9));
        Bound.notUndoable("level", Given::calm, p -> p.level(0, 0, 0));
        Bound.notUndoable("count", Given::calm, p -> p.count(5));
        Bound.notUndoable("areaOf", Given::calm, p -> p.areaOf(0, 0, 50, 1, 5));
        Bound.notUndoable("leastLikeness", Given::calm, p -> p.leastLikeness(0, 0, 15, 9, 0, 3));
        Bound.notUndoable("partingGap", Given::calm, p -> p.partingGap(0, 0, 15, 9, 0));
        Bound.notUndoable("areas", Given::calm, p -> p.areas(9));
        Bound.notUndoable("coverage", Given::calm, p -> p.coverage() > 1.0 ? 1 : 0);
        Bound.notUndoable("digest", Given::calm, AreaPicker::digest);
    }

    private static void sixStates() {
        for (int calls = 0; calls <= 14; calls++) {
            AreaPicker p = new AreaPicker();
            for (int i = 1; i <= calls; i++) {
                p.draw(0, 0, 0, 0, i);
            }
            int kept = Math.min(calls, 6);
            Check.same("saved after " + calls, p.count(8), kept);
            for (int i = 1; i <= kept; i++) {
                Check.same("undo " + i + " after " + calls, p.undo(), kept - i);
                int due = calls - i == 0 ? 50 : calls - i;
                Check.same("shade of undo " + i + " after " + calls, p.cell(0, 0, 0), due);
            }
            Bound.throwsJust("one undo more after " + calls, Check.STATE, p::undo);
        }
    }

    private static AreaPicker fullBuffer() {
        AreaPicker p = Given.busy();
        p.clearBuffer();
        Given.type(p, "0:0123456789012345/1:0123456789012345/2:0123456789012345/3:0");
        return p;
    }

    private static AreaPicker twelveWithText() {
        AreaPicker p = Given.twelve();
        Given.type(p, "0:1");
        return p;
    }

    private static void refusedCallsChangeNothing() {
        Bound.refused("draw outside", Check.INDEX, Given::busy, p -> p.draw(0, 0, 16, 9, 1));
        Bound.refused("draw with 100", Check.ARGUMENT, Given::busy, p -> p.draw(0, 0, 15, 9, 100));
        Bound.refused("fill with 100", Check.ARGUMENT, Given::busy, p -> p.fill(100));
        Bound.refused("pick outside", Check.INDEX, Given::busy, p -> p.pick(0, 10, 0, 0, 0, 0));
        Bound.refused("pick with the kind 4", Check.ARGUMENT, Given::busy, p -> p.pick(0, 0, 0, 0, 0, 4));
        Bound.refused("a 13th pick", Check.STATE, BoundsOfTerms::twelveWithText, p -> p.pick(0, 0, 0, 0, 0, 40));
        Bound.refused("toggle of none", Check.INDEX, Given::busy, p -> p.toggle(3));
        Bound.refused("setKind of none", Check.INDEX, Given::busy, p -> p.setKind(3, 0));
        Bound.refused("setKind to 4", Check.ARGUMENT, Given::busy, p -> p.setKind(0, 4));
        Bound.refused("reorder of none", Check.INDEX, Given::busy, p -> p.reorder(3, 0));
        Bound.refused("reorder to none", Check.INDEX, Given::busy, p -> p.reorder(0, 3));
        Bound.refused("append of 127", Check.ARGUMENT, Given::busy, p -> p.append(127));
        Bound.refused("append to 60", Check.STATE, BoundsOfTerms::fullBuffer, p -> p.append(48));
        Bound.refused("load of a text begun", Check.ARGUMENT, Given::busy, AreaPicker::load);
        Bound.refused("undo without saved states", Check.STATE, Given::calm, AreaPicker::undo);
        Bound.refused("cell outside", Check.INDEX, Given::busy, p -> p.cell(16, 0, 0));
        Bound.refused("cell, 3", Check.ARGUMENT, Given::busy, p -> p.cell(0, 0, 3));
        Bound.refused("picked of none", Check.INDEX, Given::busy, p -> p.picked(3, 0));
        Bound.refused("picked, 12", Check.ARGUMENT, Given::busy, p -> p.picked(0, 12));
        Bound.refused("level of none", Check.INDEX, Given::busy, p -> p.level(3, 0, 0));
        Bound.refused("count(9)", Check.ARGUMENT, Given::busy, p -> p.count(9));
        Bound.refused("areaOf outside", Check.INDEX, Given::busy, p -> p.areaOf(-1, 0, 0, 0, 0));
        Bound.refused("areaOf, gap 6", Check.ARGUMENT, Given::busy, p -> p.areaOf(0, 0, 0, 0, 6));
        Bound.refused("leastLikeness outside", Check.INDEX, Given::busy, p -> p.leastLikeness(0, 0, 0, 10, 0, 0));
        Bound.refused("leastLikeness, way 2", Check.ARGUMENT, Given::busy, p -> p.leastLikeness(0, 0, 0, 0, 2, 0));
        Bound.refused("partingGap outside", Check.INDEX, Given::busy, p -> p.partingGap(0, 0, 16, 0, 0));
        Bound.refused("partingGap, likeness 100", Check.ARGUMENT, Given::busy, p -> p.partingGap(0, 0, 0, 0, 100));
        Bound.refused("areas(100)", Check.ARGUMENT, Given::busy, p -> p.areas(100));
    }

    private static void theFirstNamed() {
        Bound.refused("draw, both", Check.INDEX, Given::busy, p -> p.draw(0, 0, 0, 10, 100));
        Bound.refused("pick, all three", Check.INDEX, Given::twelve, p -> p.pick(16, 0, 100, 2, 6, 4));
        Bound.refused("pick, cell and 12", Check.INDEX, Given::twelve, p -> p.pick(16, 0, 0, 0, 0, 0));
        Bound.refused("pick, cell and kind", Check.INDEX, Given::busy, p -> p.pick(16, 0, 0, 0, 0, 4));
        Bound.refused("pick, kind and 12", Check.ARGUMENT, Given::twelve, p -> p.pick(0, 0, 0, 0, 0, 4));
        Bound.refused("pick, likeness and 12", Check.ARGUMENT, Given::twelve, p -> p.pick(0, 0, 100, 0, 0, 0));
        Bound.refused("pick, way and 12", Check.ARGUMENT, Given::twelve, p -> p.pick(0, 0, 0, 2, 0, 0));
        Bound.refused("pick, gap and 12", Check.ARGUMENT, Given::twelve, p -> p.pick(0, 0, 0, 0, 6, 0));
        Bound.refused("setKind, both", Check.INDEX, Given::busy, p -> p.setKind(3, 4));
        Bound.refused("append, both", Check.ARGUMENT, BoundsOfTerms::fullBuffer, p -> p.append(32));
        Bound.refused("cell, both", Check.INDEX, Given::busy, p -> p.cell(0, 10, 3));
        Bound.refused("picked, both", Check.INDEX, Given::busy, p -> p.picked(3, 12));
        Bound.refused("areaOf, both", Check.INDEX, Given::busy, p -> p.areaOf(16, 0, 100, 2, 6));
        Bound.refused("leastLikeness, both", Check.INDEX, Given::busy, p -> p.leastLikeness(0, 0, 16, 0, 2, 6));
        Bound.refused("partingGap, both", Check.INDEX, Given::busy, p -> p.partingGap(0, 0, 0, -1, 100));
    }
}
