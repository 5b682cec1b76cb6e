import java.util.ArrayList;
import java.util.List;

/**
 * All that a mill shows, so that two of them can be compared that were called the same but for one call. It takes
 * fewer than 400 calls, so that it may stand behind some hundred others: an object is used for 512 at the most.
 */
final class Picture {
    /** METHODS: one whose answer tells all arguments, one with a loop over an array, one that makes an array. */
    static final byte[] FILE = new FileMaker()
        .method("hash", "(IIIIIIII)I", 2, 8, "1a" + "101f 68 1501 60" + "101f 68 1502 60" + "101f 68 1503 60" + "101f 68 1504 60"
            + "101f 68 1505 60" + "101f 68 1506 60" + "101f 68 1507 60 ac")
        .method("sum", "([I)I", 3, 3, "03 3c 03 3d 1c 2a be a2 000f 1b 2a 1c 2e 60 3c 84 0201 a7 fff1 1b ac")
        .method("made", "(I)[I", 1, 1, "1a bc0a b0").file();

    private final List<String> rows = new ArrayList<>();

    private void row(String call, long answer) {
        rows.add(call + " = " + answer);
    }

    /** A mill with a file, arrays, arguments, a run that was, a FAULT that was, and 25 bytes on the tape. */
    static RegisterMill prepared() {
        RegisterMill mill = Mills.with(FILE);
        mill.make(4);
        mill.make(0);
        mill.make(2);
        for (int i = 0; i < 4; i++) {
            mill.put(1, i, 10 * i + 1);
        }
        for (int i = 0; i < 8; i++) {
            mill.arg(i, 7 * i + 1);
        }
        mill.run(1, 0, 1000);
        mill.feed(0xcafebabe, 5, 5, 5, 5);
        mill.load();
        mill.feed(0xcafebabe, 0x31, 3, 4, 5);
        mill.feed(6, 7, 8, 9, 10);
        mill.end(5);
        return mill;
    }

    /** What no load changes: arrays, arguments, what told() tells. */
    private void seeRuns(RegisterMill mill) {
        for (int what = 0; what <= 4; what++) {
            row("told(" + what + ")", mill.told(what));
        }
        for (int h = 0; h <= 4; h++) {
            row("length(" + h + ")", mill.length(h));
            for (int i = 0; i < 5; i++) {
                row("get(" + h + ", " + i + ")", mill.get(h, i));
            }
        }
    }

    private void seeArguments(RegisterMill mill) {
        for (int kind = 0; kind < 2; kind++) {
            row("run(" + kind + ", 0, 1000)", mill.run(kind, 0, 1000));
            row("told(0)", mill.told(0));
            row("told(1)", mill.told(1));
        }
    }

    private void seeFile(RegisterMill mill) {
        row("size()", mill.size());
        // Both sums stand there, which tell of all bytes behind them.
        for (int i = 0; i < 36; i++) {
            row("out(" + i + ")", mill.out(i));
        }
        for (int m = 0; m < 3; m++) {
            for (int what = 0; what < 11; what++) {
                row("method(" + m + ", " + what + ")", mill.method(m, what));
            }
            for (int i = 0; i < 12; i++) {
                row("unit(" + m + ", " + i + ")", mill.unit(m, i));
            }
        }
        for (int pc = 0; pc < 28; pc++) {
            row("state(1, " + pc + ", 0)", mill.state(1, pc, 0));
            row("state(1, " + pc + ", 2)", mill.state(1, pc, 2));
            row("state(1, " + pc + ", 11)", mill.state(1, pc, 11));
        }
        row("check()", mill.check());
    }

    private void seeTape(RegisterMill mill) {
        row("place()", mill.place());
        row("feed", mill.feed(1, 2, 3, 4, 5));
        row("load()", mill.load());
        row("place()", mill.place());
    }

    static List<String> ofAll(RegisterMill mill) {
        Picture picture = new Picture();
        picture.seeRuns(mill);
        picture.seeFile(mill);
        picture.seeArguments(mill);
        picture.seeTape(mill);
        return picture.rows;
    }

    /** All but the tape and the place, which a load() changes. */
    static List<String> ofAllButTape(RegisterMill mill) {
        Picture picture = new Picture();
        picture.seeRuns(mill);
        picture.seeFile(mill);
        picture.seeArguments(mill);
        return picture.rows;
    }

    /** What is left alone by a load() without a FAULT. */
    static List<String> ofRuns(RegisterMill mill) {
        Picture picture = new Picture();
        picture.seeRuns(mill);
        return picture.rows;
    }

    static void same(String what, List<String> got, List<String> due) {
        for (int i = 0; i < due.size(); i++) {
            Due.that(what + ": " + got.get(i) + ", due is " + due.get(i), got.get(i).equals(due.get(i)));
        }
        Due.is(what + ": rows", got.size(), due.size());
    }
}
