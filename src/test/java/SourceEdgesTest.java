import java.util.NoSuchElementException;

/** "Terms", the source and back again, and what rests on them: each sentence that names an edge, in the document's order. */
public final class SourceEdgesTest {
    private static final Due DUE = new Due("SourceEdgesTest");
    private static final Class<NoSuchElementException> NONE = NoSuchElementException.class;
    private static final Class<UnsupportedOperationException> UNSUPPORTED = UnsupportedOperationException.class;

    public static void main(String[] args) {
        lastInstructions();
        numbers();
        placesOfCalls();
        nones();
        tidied();
        behind();
        nowhere();
        places();
        nested();
        meetings();
        ladder();
        entryBehind();
        inTurns();
        firstFunction();
        asTheyAre();
        callsBack();
        stepsBack();
        tablesBack();
        mostCompiled();
        mostCompiledTidied();
        agreeing();
        soundness();
        keptPlacesLeftOut();
        keptFirst();
        checksums();
        DUE.end();
    }

    private static void says(String sentence) {
        DUE.about("\"" + sentence + "\" ");
    }

    private static String source(int... bytes) {
        return Make.source(Make.of(bytes), 0);
    }

    private static String compiled(int... bytes) {
        return Make.compiled(Make.of(bytes));
    }

    private static int[] row(int many, int value) {
        int[] made = new int[many];
        java.util.Arrays.fill(made, value);
        return made;
    }

    private static void lastInstructions() {
        says("for each of its instructions, the last one too, if it is no jump, halt or return");
        DUE.same("straight", source(144, 145), ">a;>b;$");
        DUE.same("a call", source(133, 99), "(99);");
        DUE.same("none", source(144, 208), ">a;%");
        DUE.same("a jump", source(144, 128, 99), ">a;$");
        DUE.same("ahead of a block", source(144, 145, 128, 1), ">a;L{>b;^1;}");
        DUE.same("a halt", source(144, 7), ">a;.");
        DUE.same("a return", source(144, 134), ">a;,");
        DUE.same("a halt alone", source(0), ".");
    }

    private static void numbers() {
        says("\"a=5;\" with '-' below 0");
        int[] values = {0, 1, 9, 10, 11, 99, 100, 101, 126, 127};
        for (int value : values) {
            DUE.same("" + value, source(16, value, 0), "a=" + value + ";.");
        }
        for (int value : values) {
            DUE.same("" + (-1 - value), source(19, 255 - value, 0), "d=" + (-1 - value) + ";.");
        }
        DUE.same("-128 has seven signs", Make.of(16, 128, 0).source(0), 8);
        DUE.same("0 has four", Make.of(16, 0, 0).source(0), 5);
        DUE.same("cells", source(176, 0, 195, 7, 0), "a=x0;x7=d;.");
    }

    private static void placesOfCalls() {
        says("\"(12);\" a call of what begins at the place 12");
        int[] values = {0, 9, 10, 99, 100, 119, 120, 199, 200, 255};
        for (int value : values) {
            DUE.same("" + value, source(133, value), "(" + value + ");");
        }
        int[] full = row(120, 0);
        full[0] = 133;
        full[1] = 119;
        full[119] = 134;
        DUE.same("the last place", source(full), "(119);.");
    }

    private static void nones() {
        says("an instruction that is none: \"%\"");
        int[][] all = {{135}, {140}, {143}, {208}, {255}, {176, 8}, {207, 255}, {136, 0, 0}, {139, 3, 1}};
        for (int[] bytes : all) {
            Sourcewright x = Make.of(bytes);
            DUE.same("" + bytes[0], Make.source(x, 0), "%");
            DUE.same("compiled", Make.compiled(x), "208");
            DUE.same("run", Runs.told(DUE, x, 9), "i 0");
        }
    }

    private static void tidied() {
        says("Idle ones are left out if the source is tidy, as it is not at first");
        Sourcewright x = Make.of(16, 1, 32, 54, 70, 86, 176, 3, 97, 0);
        DUE.same("at first", Make.source(x, 0), "a=1;a=a;b+c;b-c;b*c;a=x3;a/b;.");
        DUE.same("its bytes", x.compiled(), 10);
        DUE.same("tidy", x.tidy(true), false);
        DUE.same("a=a; alone is idle, but uses a", Make.source(x, 0), "a=1;b+c;b-c;b*c;a=x3;a/b;.");
        DUE.same("its bytes, tidied", Make.compiled(x), "16 1 54 70 86 176 3 97 0");
        Sourcewright all = Make.of(row(120, 36));
        all.tidy(true);
        DUE.same("all are idle", Make.source(all, 0), "$");
        DUE.same("all bytes", Make.compiled(all), "128 255");
        DUE.same("they stand in the block", all.size(0, 0), 120);
        DUE.same("run", Runs.told(DUE, all, 200), "b 120");
        Sourcewright anew = Make.of(16, 1, 0);
        anew.tidy(true);
        anew.wipe();
        anew.type(16);
        anew.type(2);
        DUE.same("a wipe leaves it tidy", Make.source(anew, 0), "$");
    }

    private static void behind() {
        says("Then what is behind");
        String[] due = {".", "=(.:.)", "#(.:.)", "<(.:.)", "](.:.)"};
        for (int i = 0; i < 5; i++) {
            DUE.same("jump " + i, source(128 + i, 3, 0, 0), due[i]);
        }
        for (int s = 0; s < 4; s++) {
            DUE.same("a table of one", source(136 + s, 3, 1, 4, 0), "[" + "abcd".charAt(s) + "(.)");
        }
        DUE.same("a table of three", source(136, 3, 3, 6, 7, 8, 0, 134, 208), "[a(.:,:%)");
        DUE.same("otherwise the step", source(133, 4, 128, 5, 134, 0), "(4);.");
        DUE.same("if there is one", source(133, 4, 128, 5, 0, 0), "(4);");
    }

    private static void nowhere() {
        says("A step to -1 is \"$\"");
        DUE.same("behind the bytes", source(144), ">a;$");
        DUE.same("not wholly there", source(144, 16), ">a;$");
        DUE.same("where it goes", source(129, 3, 0), "=($:.)");
        DUE.same("the next one", source(129, 0), "L{=(^0;:$)}");
        DUE.same("both", source(129, 255), "=($:$)");
        DUE.same("of a table", source(136, 3, 2, 255, 5), "[a($:$)");
        int[] most = row(120, 255);
        most[0] = 136;
        most[1] = 3;
        most[2] = 117;
        DUE.same("117 of a table", source(most), "[a($" + ":$".repeat(116) + ")");
    }

    private static void places() {
        says("\"^\" and the place of that block's first instruction, and \";\"; a leap \"@\" likewise; a step to a meeting \"!\" likewise");
        int[] places = {0, 9, 10, 99, 100, 117};
        for (int place : places) {
            int[] bytes = row(120, 208);
            bytes[0] = 128;
            bytes[1] = place;
            bytes[place] = 128;
            bytes[place + 1] = place;
            DUE.same("back to " + place, source(bytes), "L{^" + place + ";}");
        }
        int[] meets = {4, 9, 10, 99, 100, 119};
        for (int place : meets) {
            int[] bytes = row(120, 0);
            bytes[0] = 129;
            bytes[1] = place;
            bytes[2] = 128;
            bytes[3] = place;
            DUE.same("a meeting " + place, source(bytes), "{=(!" + place + ";:!" + place + ";)}.");
        }
        // the circle of two that is gone into by both: 0: if 0 to 100, 2: jump to 100, 100: if not 0 to 2, 102: .
        int[] leap = row(120, 0);
        int[] front = {129, 100, 128, 100};
        System.arraycopy(front, 0, leap, 0, 4);
        leap[100] = 130;
        leap[101] = 2;
        DUE.same("a leap", source(leap), "{=(#(!2;:.):!2;)}@100;");
        DUE.same("leaps of a table", source(129, 7, 136, 5, 2, 7, 7, 128, 2), "{=(!2;:!2;)}[a(@7;:@7;)");
        DUE.same("a block by its first instruction, not by where the step is", source(144, 145, 146, 128, 1), ">a;L{>b;>c;^1;}");
    }

    private static void nested() {
        says("any other one is the whole of that block, there");
        int[] bytes = new int[120];
        for (int i = 0; i < 60; i++) {
            bytes[2 * i] = 130;
            bytes[2 * i + 1] = 255;
        }
        DUE.same("60 in one another", source(bytes), "#($:".repeat(60) + "$" + ")".repeat(60));
        DUE.same("where it goes stands in front of the next one", source(129, 4, 144, 0, 145, 0), "=(>b;.:>a;.)");
        DUE.same("a row of jumps is none", source(128, 4, 0, 0, 128, 2), ".");
        says("if it is the head of a loop, \"L{\", what follows, \"}\"");
        DUE.same("what follows a head with meetings", source(129, 3, 144, 129, 0, 0), "L{{=(!3;:>a;!3;)}=(^0;:.)}");
        DUE.same("a meeting that is a head", source(129, 2, 144, 129, 2, 0), "{=(!2;:!2;)}L{>a;=(^2;:.)}");
        DUE.same("the block behind stands in the loop", source(128, 0, 0), "L{^0;}");
    }

    private static void meetings() {
        says("the last of them in the order first: \"{\", the rest likewise, \"}\", and the whole of that meeting; without more of them the block itself");
        // 0: [a( to 6 6 7 7 ... each place of two is a meeting of the block 0, of which the last in the order is the first place
        DUE.same("one", source(136, 3, 2, 5, 5, 0), "{[a(!5;:!5;)}.");
        DUE.same("two", source(136, 3, 4, 7, 7, 8, 8, 0, 134), "{{[a(!7;:!7;:!8;:!8;)},}.");
        DUE.same("two, the other way round", source(136, 3, 4, 8, 8, 7, 7, 0, 134), "{{[a(!8;:!8;:!7;:!7;)}.},");
        // 38 of them, at 79 to 116
        int[] bytes = row(117, 0);
        bytes[0] = 136;
        bytes[1] = 3;
        bytes[2] = 76;
        StringBuilder due = new StringBuilder("{".repeat(38)).append("[a(");
        for (int i = 0; i < 38; i++) {
            bytes[3 + 2 * i] = 79 + i;
            bytes[4 + 2 * i] = 79 + i;
            due.append(i == 0 ? "" : ":").append('!').append(79 + i).append(";:!").append(79 + i).append(';');
        }
        due.append(')').append("}.".repeat(38));
        Sourcewright x = Make.of(bytes);
        DUE.same("38", Make.source(x, 0), due.toString());
        DUE.same("the first's order", x.order(0, 1), 38);
        DUE.same("the last's order", x.order(0, 38), 1);
        DUE.same("nearest", x.nearest(0, 20), 0);
    }

    /** So many times: if 0 to the third place on, >a; -- the last one's places are behind the bytes. */
    private static Sourcewright rungs(int many) {
        int[] bytes = new int[3 * many];
        for (int i = 0; i < many; i++) {
            bytes[3 * i] = 129;
            bytes[3 * i + 1] = 3 * i + 3;
            bytes[3 * i + 2] = 144;
        }
        return Make.of(bytes);
    }

    private static void ladder() {
        says("and the whole of that meeting");
        StringBuilder due = new StringBuilder();
        for (int i = 0; i < 39; i++) {
            String to = "!" + (3 * i + 3) + ";";
            due.append("{=(").append(to).append(":>a;").append(to).append(")}");
        }
        Sourcewright x = rungs(40);
        DUE.same("40 in a row", Make.source(x, 0), due + "=($:>a;$)");
        DUE.same("blocks", x.blocks(0), 80);
        DUE.same("sound", x.isSound(), true);
        DUE.same("seven bytes for each of 34", rungs(34).compiled(), 238);
        DUE.fails("and of 35", UNSUPPORTED, () -> rungs(35).compiled());
    }

    private static void entryBehind() {
        says("those meetings whose nearest one ahead is this block");
        // at 2: if 0 to 0, 4: jump to 0: the block 0 is a meeting, as the entry's stands behind it
        Sourcewright x = Make.of(0, 0, 129, 0, 128, 0);
        x.entry(2);
        DUE.same("it is a meeting", x.isMeeting(1, 0), true);
        DUE.same("source", Make.source(x, 1), "{=(!0;:!0;)}.");
        DUE.same("compiled", Make.compiled(x), "0 129 5 128 7 128 7 0");
        DUE.same("sound", x.isSound(), true);
    }

    private static void inTurns() {
        says("All functions, by rising ones, are compiled");
        Sourcewright x = Make.of(144, 128, 0, 145, 0);
        x.entry(3);
        for (int i = 0; i < 2; i++) {
            DUE.same("a sign of one", x.sign(0, 0), 'L');
            DUE.same("a sign of the other", x.sign(1, 0), '>');
        }
        DUE.same("compiled", Make.compiled(x), "144 128 0 145 0");
        DUE.same("a sign behind that", x.sign(0, 2), '>');
        DUE.same("and of the other", x.sign(1, 3), '.');
        Sourcewright y = Make.of(133, 4, 0, 0, 134);
        DUE.same("with a call", Make.compiled(y), "133 3 0 134");
        y.set(0, 144);
        y.set(1, 144);
        DUE.same("without it", Make.compiled(y), "144 144 0");
        y.set(0, 133);
        y.set(1, 3);
        DUE.same("with another", Make.compiled(y), "133 2 0");
    }

    private static void firstFunction() {
        says("if there is no function at 0, a jump to 255 comes first");
        DUE.same("no bytes", compiled(), "128 255");
        DUE.same("nothing wholly there", compiled(136, 0), "128 255");
        Sourcewright x = Make.of(136, 0);
        x.entry(1);
        DUE.same("a function at 1 alone", Make.compiled(x), "128 255 0");
        DUE.same("it does not run", Runs.told(DUE, x, 9), "b 0");
        x.type(1);
        DUE.same("now there is one at 0", Make.compiled(x), "136 3 1 4 128 255 0");
        DUE.same("a function at 0", compiled(0), "0");
    }

    private static void asTheyAre() {
        says("An instruction is as it is, \"%\" the byte 208, \".\" the byte 0, \",\" the byte 134");
        for (int value = 0; value < 256; value++) {
            int h = value / 16;
            boolean isTwo = h == 1 || h == 11 || h == 12;
            String due = h == 0 ? "0" : h > 12 ? "208 128 255" : value + (isTwo ? " 6" : "") + " 128 255";
            if (h != 8) {
                Sourcewright x = isTwo ? Make.of(value, 6) : Make.of(value);
                DUE.same("" + value, Make.compiled(x), h > 12 ? "208" : due);
            }
        }
        DUE.same("134", compiled(134), "134");
        DUE.same("135", compiled(135), "208");
        DUE.same("a number of 255", compiled(16, 255, 0), "16 255 0");
    }

    private static void callsBack() {
        says("a call goes to where that function is now, or to 255 if there is none");
        DUE.same("behind the bytes", compiled(133, 2), "133 255");
        DUE.same("255", compiled(133, 255), "133 255");
        DUE.same("not wholly there", compiled(133, 2, 16), "133 255");
        DUE.same("none", compiled(133, 2, 208), "133 2 208");
        DUE.same("itself", compiled(133, 0), "133 0");
        DUE.same("further on", compiled(133, 5, 0, 0, 0, 0), "133 2 0");
        // 0: (9); 2: . 6: >a; , as an entry, 9: ,
        Sourcewright x = Make.of(133, 9, 0, 0, 0, 0, 144, 134, 0, 134);
        x.entry(6);
        DUE.same("behind another function", Make.compiled(x), "133 5 0 144 134 134");
        DUE.same("back to the first", compiled(130, 3, 0, 133, 6, 0, 133, 0), "130 3 0 133 5 133 0");
    }

    private static void stepsBack() {
        says("A step to a block that is written there is that block; any other step is a jump, always, to where that block is now, \"$\" to 255");
        DUE.same("written there", compiled(128, 3, 0, 144, 0), "144 0");
        DUE.same("back", compiled(208 - 64, 128, 0), "144 128 0");
        DUE.same("to nowhere", compiled(144), "144 128 255");
        DUE.same("back to the middle", compiled(144, 145, 128, 1), "144 145 128 1");
        says("A jump with a flag is one of the same kind, then the step to the next one, and then, where it goes to, the step to where it went");
        for (int value = 129; value <= 132; value++) {
            DUE.same("both are there", compiled(value, 4, 144, 0, 145, 0), value + " 4 144 0 145 0");
            DUE.same("neither is", compiled(value, 99), value + " 4 128 255 128 255");
            DUE.same("a meeting", compiled(value, 2, 0), value + " 4 128 6 128 6 0");
            DUE.same("back and nowhere", compiled(value, 0), value + " 4 128 255 128 0");
        }
        // 0: if 0 to 6, 2: if 0 to 5, 4: . 5: , 6: %
        DUE.same("one in the other", compiled(129, 6, 129, 5, 0, 134, 208), "129 6 129 5 0 134 208");
        DUE.same("a leap", compiled(129, 4, 128, 4, 130, 2, 0), "129 4 128 9 130 7 0 128 9 128 4");
    }

    private static void tablesBack() {
        says("A jump by a table is one of the same kind, then its table, then its steps, one behind the other, to which the table goes");
        for (int s = 0; s < 4; s++) {
            DUE.same("one place", compiled(136 + s, 3, 1, 4, 0), (136 + s) + " 3 1 4 0");
            DUE.same("the same place twice", compiled(136 + s, 3, 2, 5, 5, 0), (136 + s) + " 3 2 5 7 128 9 128 9 0");
        }
        DUE.same("nowhere", compiled(136, 3, 2, 255, 5), "136 3 2 5 7 128 255 128 255");
        DUE.same("a table in front of it", compiled(128, 3, 6, 136, 2, 1, 0), "136 3 1 4 0");
        DUE.same("behind others", compiled(144, 144, 137, 5, 1, 6, 0), "144 144 137 5 1 6 0");
        // 0: <a; [a( to 6, which says 7, and to 8, which says 9
        Sourcewright x = Runs.fed(Runs.bytes(160, 136, 4, 2, 6, 9, 17, 7, 0, 17, 9, 145, 0), 1);
        DUE.same("it runs", Runs.told(DUE, x, 9), "h 5 9");
    }

    /** Outs alone: the function at 0 has 120 and a jump, that of an entry as many as there are behind it, and a jump. */
    private static Sourcewright outs(int entry) {
        Sourcewright made = Make.of(row(120, 144));
        made.entry(entry);
        return made;
    }

    private static void mostCompiled() {
        says("to bytes, at most 240");
        Sourcewright most = outs(4);
        DUE.same("240", most.compiled(), 240);
        DUE.same("its first", most.compiledByte(0), 144);
        DUE.same("its last", most.compiledByte(239), 255);
        DUE.same("its last but one", most.compiledByte(238), 128);
        DUE.fails("one more byte", NONE, () -> most.compiledByte(240));
        DUE.fails("one less than none", NONE, () -> most.compiledByte(-1));
        DUE.same("agree", most.agree(2000), true);
        DUE.same("its run", most.run(true, 2000), 'o');
        Sourcewright more = outs(3);
        DUE.fails("241", UNSUPPORTED, () -> more.compiled());
        DUE.fails("a byte of 241", UNSUPPORTED, () -> more.compiledByte(0));
        DUE.fails("a run of 241", UNSUPPORTED, () -> more.run(true, 0));
        DUE.fails("agree of 241", UNSUPPORTED, () -> more.agree(0));
        DUE.same("sound, as they are too many", more.isSound(), true);
        DUE.same("the bytes run", more.run(false, 2000), 'o');
        more.set(119, 0);
        DUE.same("with a halt it is two less for each", more.compiled(), 237);
        most.entry(119);
        DUE.fails("three more", UNSUPPORTED, () -> most.compiled());
    }

    private static void mostCompiledTidied() {
        says("are compiled from their sources, tidy or not");
        Sourcewright x = Make.of(row(120, 36));
        x.entry(1);
        DUE.fails("243", UNSUPPORTED, () -> x.compiled());
        x.tidy(true);
        DUE.same("4", Make.compiled(x), "128 255 128 255");
        DUE.same("agree", x.agree(2000), true);
        x.tidy(false);
        DUE.fails("243 again", UNSUPPORTED, () -> x.compiled());
    }

    private static void agreeing() {
        says("whether they do; if one ends with 's', whether the numbers agree as far as both have them");
        // the bytes end behind a jump to the third place, the compiled have no such jump, and so come further in as many steps
        Sourcewright x = Make.of(128, 2, 144, 144, 0);
        for (int limit = 0; limit <= 6; limit++) {
            DUE.same("agree(" + limit + ")", x.agree(limit), true);
        }
        DUE.same("the bytes, 2 steps", Runs.plain(x, 2), "s 2 0");
        DUE.same("the compiled, 2 steps", x.run(true, 2), 's');
        DUE.same("the compiled have more", x.outputs(), 2);
        DUE.same("0 of 2000", Make.of(128, 0).agree(0), true);
        DUE.same("2000 of 2000", Make.of(128, 0).agree(2000), true);
        DUE.same("no bytes", new Sourcewright().agree(1), true);
        DUE.same("'b' at once, and 's' of the jump that is compiled", new Sourcewright().agree(0), true);
    }

    private static void soundness() {
        says("both runs with the inputs, of at most 300 instructions, agree, if the compiled bytes are not too many");
        DUE.same("no bytes", new Sourcewright().isSound(), true);
        DUE.same("one byte", Make.of(0).isSound(), true);
        DUE.same("not wholly there", Make.of(16).isSound(), true);
        DUE.same("a full one", Make.of(row(120, 144)).isSound(), true);
        int[] calls = new int[120];
        for (int i = 0; i < 120; i++) {
            calls[i] = i % 3 == 0 ? 133 : i % 3 == 1 ? (i + 2) % 120 : 134;
        }
        DUE.same("calls round", Make.of(calls).isSound(), true);
    }

    private static boolean isSame(int[] one, int... other) {
        Sourcewright x = Make.of(one);
        x.keep();
        x.wipe();
        for (int value : other) {
            x.type(value);
        }
        try {
            return x.match(0) == 0;
        } catch (NoSuchElementException e) {
            return false;
        }
    }

    private static void keptPlacesLeftOut() {
        says("the places told in both by \"(\" , \"^\", \"@\" and \"!\" being left out");
        DUE.same("\"(\" of one sign and of three", isSame(Runs.bytes(133, 9), 133, 250), true);
        DUE.same("\"^\"", isSame(Runs.bytes(128, 0), 128, 2, 128, 2), true);
        DUE.same("\"^\" of one sign and of two", isSame(Runs.bytes(128, 0), 128, 11, 0, 0, 0, 0, 0, 0, 0, 0, 0, 128, 11), true);
        DUE.same("\"!\"", isSame(Runs.bytes(129, 2, 0), 129, 4, 128, 4, 0), true);
        DUE.same("\"@\"", isSame(Runs.bytes(129, 4, 128, 4, 130, 2, 0), 129, 5, 128, 5, 0, 130, 2, 0), true);
        says("whose source is that of a function");
        DUE.same("numbers are no places", isSame(Runs.bytes(16, 1, 0), 16, 2, 0), false);
        DUE.same("numbers below 0", isSame(Runs.bytes(16, 255, 0), 16, 254, 0), false);
        DUE.same("cells are no places", isSame(Runs.bytes(176, 1, 0), 176, 2, 0), false);
        DUE.same("cells that are made are none", isSame(Runs.bytes(192, 1, 0), 192, 2, 0), false);
        DUE.same("the first sign", isSame(Runs.bytes(144, 0), 160, 0), false);
        DUE.same("the last sign", isSame(Runs.bytes(144, 0), 144, 134), false);
        DUE.same("registers", isSame(Runs.bytes(144, 0), 145, 0), false);
        DUE.same("a number behind a place", isSame(Runs.bytes(133, 2, 134), 133, 4, 16, 1, 134), false);
        DUE.same("a number first in a step", isSame(Runs.bytes(129, 3, 0, 16, 1, 0), 129, 3, 0, 16, 2, 0), false);
        DUE.same("'>' and '<' behind \"(\"", isSame(Runs.bytes(129, 3, 0, 144, 0), 129, 3, 0, 160, 0), false);
        DUE.same("'<' and '=' behind \"(\"", isSame(Runs.bytes(129, 3, 0, 131, 255), 129, 3, 0, 129, 255), false);
        DUE.same("';' behind a place is no place", isSame(Runs.bytes(128, 0), 128, 2, 129, 2), false);
        DUE.same("'^' is not '!'", isSame(Runs.bytes(129, 0, 0), 129, 2, 0), false);
        DUE.same("longer", isSame(Runs.bytes(144, 0), 144, 144, 0), false);
        DUE.same("shorter", isSame(Runs.bytes(144, 144, 0), 144, 0), false);
        DUE.same("the kinds of halts are alike", isSame(Runs.bytes(144, 0), 144, 15), true);
    }

    private static void keptFirst() {
        says("Returns the first kept function");
        Sourcewright x = Make.of(133, 4, 133, 6, 134, 0, 134);
        DUE.fails("nothing is kept", NONE, () -> x.match(0));
        DUE.same("keep", x.keep(), 3);
        DUE.same("the last", x.match(2), 1);
        DUE.same("the second", x.match(1), 1);
        DUE.same("the first", x.match(0), 0);
        x.tidy(true);
        x.set(2, 208);
        DUE.fails("one that is not kept", NONE, () -> x.match(0));
        DUE.same("keep in their place", x.keep(), 2);
        DUE.same("it is kept now", x.match(0), 0);
        DUE.same("and the other", x.match(1), 1);
        x.wipe();
        DUE.same("keep of none", x.keep(), 0);
        x.type(134);
        DUE.fails("none is kept", NONE, () -> x.match(0));
        Sourcewright y = Make.of(16, 1, 0);
        y.keep();
        y.tidy(true);
        DUE.fails("what was kept is not tidied", NONE, () -> y.match(0));
        y.tidy(false);
        DUE.same("as it was kept", y.match(0), 0);
    }

    private static void checksums() {
        says("7 at first, then for each byte 31 times itself plus its kind as a number, then for each function 31 times itself plus its entry, then 31 times itself plus how many signs its source has");
        DUE.same("at first", new Sourcewright().checksum(), 7L);
        DUE.same("one byte", Make.of(208).checksum(), ((7L * 31 + 99) * 31 + 0) * 31 + 1);
        DUE.same("no function", Make.of(16).checksum(), 7L * 31 + 45);
        Sourcewright full = Make.of(row(120, 144));
        long sum = 7;
        for (int i = 0; i < 120; i++) {
            sum = sum * 31 + 'c';
        }
        for (int i = 1; i <= 4; i++) {
            full.entry(i);
        }
        for (int i = 0; i <= 4; i++) {
            sum = sum * 31 + i;
            sum = sum * 31 + (3 * (120 - i) + 1);
        }
        DUE.same("it wraps as longs do", full.checksum(), sum);
    }
}
