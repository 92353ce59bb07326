/** Each promise by its own words: ordinary inputs, the edges that it names, and wrong inputs. */
public final class PromisesTest extends Scenes {
    private static void due(int promise, String what, String got, Object want) {
        compare("promise " + promise, what, got, want);
    }

    public static void main(String[] args) {
        newObject();
        word();
        id();
        tape();
        tapeBehindMake();
        tapeBehindEnd();
        metadata();
        make();
        makeLate();
        entry();
        alter();
        alterToOtherEntries();
        openBytes();
        openEarly();
        openEmptyWords();
        openEmptyWordAsOwners();
        openLate();
        openKeepsAndLoses();
        key();
        filter();
        apply();
        applyLimits();
        endOfBytes();
        endOfBlocks();
        endOfBlocksBack();
        endWrongFills();
        out();
        digest();
        weak();
        told();
        System.exit(wrong == 0 ? 0 : 1);
    }

    private static void newObject() {
        int[][] asked = {
            {Integer.MIN_VALUE, 2, 1}, {0, 2, 1}, {2, 2, 1}, {3, 2, 1},
            {4, 2, 2}, {5, 5, 2}, {6, 5, 2}, {Integer.MAX_VALUE, 5, 2}
        };
        for (int[] row : asked) {
            Pair x = new Pair(row[0]);
            due(1, "nothing made", x.entry(0, -1), INDEX);
            due(1, "nothing made to open", x.open(-1), STATE);
            due(1, "nothing open", x.key(0, 0), STATE);
            due(1, "no bytes", x.end(), -1);
            for (int what = 0; what < 4; what++) {
                due(1, "nothing to tell", x.told(what), 0);
            }
            due(1, "the weak ones", x.weak(), row[0] < 3 ? 1 : 0);
            due(1, "metadata", x.metadata(false), 0);
            due(1, "the first filter", x.filter(0), row[2]);
            due(1, "no tape", x.tape(1), 4);
            x.tapes(16);
            due(1, "the entries", x.make(1), row[1]);
            due(1, "the empty words", x.open(-1), 1);
            ended(x);
        }
    }

    private static void word() {
        for (int revision = 2; revision <= 5; revision++) {
            Pair x = new Pair(revision);
            x.tapes(34);
            due(2, "lowest eight bits", x.word(0x12345675, false), 1);
            due(2, "lowest eight bits", x.word(-1, false), 2);
            due(2, "the owner's", x.word(256, true), 1);
            x.make(1);
            due(2, "the word opens", x.tryWord(Model.bytes(0x75, 255)), 1);
            due(2, "the owner's word opens", x.tryWord(Model.bytes(0)), 2);
            ended(x);
            fullWord(revision, false);
            fullWord(revision, true);
        }
    }

    private static void fullWord(int revision, boolean owner) {
        Pair x = new Pair(revision);
        x.tapes(34);
        for (int n = 1; n <= 127; n++) {
            due(2, "how many", x.word(n, owner), n);
        }
        due(2, "127 bytes", x.word(1, owner), UNSUPPORTED);
        due(2, "the other has room", x.word(1, !owner), 1);
        x.make(1);
        byte[] word = owner ? x.model().owner : x.model().user;
        due(2, "127 bytes open", x.tryWord(word), owner ? 2 : 1);
        due(2, "126 bytes of 127", x.tryWord(java.util.Arrays.copyOf(word, 126)), revision == 5 ? 0 : owner ? 2 : 1);
        ended(x);
    }

    private static void id() {
        for (int revision = 2; revision <= 5; revision++) {
            Pair x = opened(revision);
            due(3, "open stays", x.id(9), 0);
            due(3, "open stays", x.key(1, 1), revision == 2 ? 10 : revision == 5 ? 32 : 16);
            x.seeAll();
            due(3, "entries go by the id", x.tryWord(text("user")), revision == 5 ? 1 : 0);
            x.make(1);
            due(3, "made by the id", x.tryWord(text("owner")), 2);
            for (int n = 4; n <= 32; n++) {
                due(3, "32 bytes", x.id(n), 0);
            }
            due(3, "a 33rd byte", x.id(1), UNSUPPORTED);
            x.make(-1);
            due(3, "32 bytes of id", x.tryWord(text("user")), 1);
            ended(x);
        }
    }

    private static void tape() {
        Pair x = new Pair(5);
        for (int n = 1; n <= 100; n++) {
            due(4, "how many", x.tape(0x01020304 * n), 4 * n);
        }
        due(4, "more than 400", x.tape(1), UNSUPPORTED);
        due(4, "left", x.told(1), 400);
        x.make(1);
        due(4, "left", x.told(1), 332);
        due(4, "the highest first", x.entry(1, 32), 9);
        due(4, "the highest first", x.entry(1, 35), 36);
        due(4, "given ones count for the limit", x.tape(0xfffefdfc), UNSUPPORTED);
        due(4, "the word", x.open(-1), 1);
        due(4, "the key is the tape's", x.key(0, 0), 32);
        due(4, "the first one first", x.out(0), 1);
        due(4, "the first one first", x.out(3), 4);
        due(4, "the first one first", x.out(4), 2);
        for (int n = 4; n >= 1; n--) {
            due(4, "the next 68", x.make(n), 5);
            due(4, "left", x.told(1), 68 * n - 8);
            x.open(-1);
            x.key(0, 0);
            x.seeAll();
        }
        due(4, "60 bytes of 68 that are left", x.make(1), STATE);
        due(4, "400 that it has", x.tape(1), UNSUPPORTED);
        ended(x);
    }

    private static void tapeBehindMake() {
        for (int revision = 2; revision <= 5; revision++) {
            int each = revision == 5 ? 68 : 0;
            Pair x = new Pair(revision);
            x.tapes(17);
            x.make(0);
            due(4, "given ones count", x.tape(0x01020304), 72);
            due(4, "left", x.told(1), 72 - each);
            for (int n = 19; n <= 34; n++) {
                due(4, "given ones count", x.tape(n), 4 * n);
            }
            due(4, "the next 68", x.make(0), revision == 5 ? 5 : 2);
            due(4, "left", x.told(1), 136 - 2 * each);
            x.open(-1);
            x.key(0, 0);
            x.seeAll();
            due(4, "the next ones are the key", x.out(0), x.model().outBytes[0]);
            for (int n = 35; n <= 100; n++) {
                due(4, "given ones count", x.tape(n), 4 * n);
            }
            due(4, "given ones count for the limit", x.tape(0), UNSUPPORTED);
            due(4, "a throw changes nothing", x.told(1), 400 - 2 * each);
            ended(x);
        }
    }

    private static void tapeBehindEnd() {
        for (int revision = 4; revision <= 5; revision++) {
            Pair x = new Pair(revision);
            x.tapes(25);
            x.make(0);
            x.open(-1);
            int left = Integer.parseInt(x.told(1));
            for (int n = 1; n <= 2; n++) {
                x.apply(n, false, 65);
                due(4, "a vector of the tape", x.end(), 32);
                due(4, "left", x.told(1), left - 16 * n);
                x.seeAll();
            }
            due(4, "given ones count", x.tape(1), 104);
            due(4, "left", x.told(1), left - 28);
            for (int n = 27; n <= 100; n++) {
                due(4, "given ones count", x.tape(n), 4 * n);
            }
            x.apply(3, false, 65);
            due(4, "a vector of the tape", x.end(), 32);
            due(4, "given ones count for the limit", x.tape(1), UNSUPPORTED);
            due(4, "left", x.told(1), left + 300 - 48);
            ended(x);
        }
    }

    private static void metadata() {
        for (int revision = 2; revision <= 5; revision++) {
            Pair x = opened(revision);
            due(5, "what it was", x.metadata(true), 0);
            due(5, "what it was", x.metadata(true), 1);
            due(5, "open stays", x.apply(1, false, 1), 1);
            due(5, "only 4 goes by it", x.tryWord(text("user")), revision == 4 ? 0 : 1);
            x.make(-2);
            due(5, "made plain", x.tryWord(text("owner")), 2);
            due(5, "what it was", x.metadata(false), 1);
            due(5, "open stays", x.told(3), -2);
            due(5, "only 4 goes by it", x.tryWord(text("user")), revision == 4 ? 0 : 1);
            ended(x);
        }
    }

    private static void make() {
        for (int revision = 2; revision <= 4; revision++) {
            Pair x = new Pair(revision);
            due(6, "two without a tape", x.make(0x80000001), 2);
            due(6, "32 bytes", x.entry(0, -1), 32);
            due(6, "32 bytes", x.entry(1, -1), 32);
            x.tapes(3);
            due(6, "two", x.make(5), 2);
            due(6, "the tape stays", x.told(1), 12);
            x.tryWord(text(""));
            x.apply(1, false, 1);
            x.open(1);
            x.make(6);
            due(6, "nothing is open", x.key(1, 1), STATE);
            due(6, "collected bytes are gone", x.told(0), 0);
            due(6, "collected bytes are gone", x.end(), -1);
            due(6, "the word that is tried stays", x.open(1), 2);
            x.open(-1);
            x.words(false, text("u"));
            due(6, "words are looked at by make alone", x.open(-1), 1);
            x.make(7);
            due(6, "words are looked at by make", x.open(-1), 0);
            ended(x);
        }
    }

    private static void makeLate() {
        Pair x = new Pair(5);
        x.tapes(16);
        due(6, "64 bytes of 68", x.make(1), STATE);
        due(6, "nothing made", x.entry(0, -1), INDEX);
        due(6, "nothing told", x.told(3), 0);
        due(6, "the tape stays", x.told(1), 64);
        x.tapes(1);
        due(6, "68 bytes", x.make(1), 5);
        due(6, "none left", x.told(1), 0);
        due(6, "opened", x.open(-1), 1);
        x.apply(3, false, 3);
        due(6, "no tape again", x.make(2), STATE);
        due(6, "open stays", x.told(0), 1);
        due(6, "open stays", x.key(0, 0), 32);
        due(6, "permissions stay", x.told(3), 1);
        x.seeAll();
        x.tapes(17);
        due(6, "68 bytes again", x.make(3), 5);
        due(6, "nothing is open", x.key(0, 0), STATE);
        due(6, "collected bytes are gone", x.told(0), 0);
        ended(x);
    }

    private static void entry() {
        int[][] sizes = {{32, 32}, {32, 32}, {32, 32}, {48, 48, 32, 32, 16}};
        for (int revision = 2; revision <= 5; revision++) {
            Pair x = ready(revision);
            due(7, "before they were made", x.entry(0, 0), INDEX);
            x.make(77);
            int[] due = sizes[revision - 2];
            for (int which = 0; which < due.length; which++) {
                due(7, "how many", x.entry(which, -1), due[which]);
                for (int i = 0; i < due[which]; i++) {
                    int v = x.model().entries[which][i] & 255;
                    due(7, "byte " + i, x.entry(which, i), v);
                }
                due(7, "behind the end", x.entry(which, due[which]), INDEX);
                due(7, "below -1", x.entry(which, -2), INDEX);
                due(7, "far", x.entry(which, Integer.MAX_VALUE), INDEX);
                due(7, "far", x.entry(which, Integer.MIN_VALUE), INDEX);
            }
            due(7, "no such entry", x.entry(due.length, 0), INDEX);
            due(7, "no such entry", x.entry(due.length, -1), INDEX);
            due(7, "no such entry", x.entry(-1, 0), INDEX);
            due(7, "no such entry", x.entry(Integer.MIN_VALUE, -1), INDEX);
            due(7, "no such entry", x.entry(Integer.MAX_VALUE, -1), INDEX);
            ended(x);
        }
    }

    private static void alter() {
        for (int revision = 2; revision <= 5; revision++) {
            Pair x = ready(revision);
            due(8, "before they were made", x.alter(0, 0, 1), INDEX);
            x.make(5);
            x.tryWord(text("user"));
            x.apply(1, true, 1);
            due(8, "no byte -1", x.alter(0, -1, 1), INDEX);
            due(8, "no such byte", x.alter(1, revision == 5 ? 48 : 32, 1), INDEX);
            due(8, "no such entry", x.alter(revision == 5 ? 5 : 2, 0, 1), INDEX);
            due(8, "no such entry", x.alter(-1, 0, 1), INDEX);
            due(8, "a throw changes nothing", x.told(0), 1);
            due(8, "a throw leaves it open", x.apply(1, true, 2), 2);
            int before = Integer.parseInt(x.entry(1, 31));
            due(8, "altered", x.alter(1, 31, before), 0);
            due(8, "nothing is open", x.key(1, 1), STATE);
            due(8, "bytes are gone", x.told(0), 0);
            due(8, "the same byte opens", x.tryWord(text("owner")), 2);
            x.alter(1, 31, before ^ 1);
            due(8, "another byte", x.entry(1, 31), before ^ 1);
            due(8, "another byte behind the 16th", x.tryWord(text("user")), revision == 3 || revision == 4 ? 1 : 0);
            x.alter(1, 31, before);
            x.alter(1, 15, ~Integer.parseInt(x.entry(1, 15)));
            due(8, "another byte of the first 16", x.tryWord(text("user")), 0);
            x.make(6);
            x.alter(0, 31, ~Integer.parseInt(x.entry(0, 31)));
            due(8, "entry 0 of the user", x.tryWord(text("user")), revision == 5 ? 1 : 0);
            due(8, "entry 0 of the owner", x.tryWord(text("owner")), 0);
            ended(x);
        }
    }

    /** The entries of another object, byte by byte: its words open them. */
    private static void alterToOtherEntries() {
        for (int revision = 2; revision <= 5; revision++) {
            Pair other = made(revision);
            Pair x = new Pair(revision);
            x.id(7);
            x.id(-7);
            x.tapes(17);
            x.make(-1340);
            for (int which = 0; which < other.model().entries.length; which++) {
                byte[] bytes = other.model().entries[which];
                for (int i = 0; i < bytes.length; i++) {
                    x.alter(which, i, bytes[i]);
                }
            }
            due(8, "another's user", x.tryWord(text("user")), 1);
            x.key(1, 1);
            due(8, "another's owner", x.tryWord(text("owner")), 2);
            x.key(1, 2);
            due(8, "its own word", x.open(-1), 0);
            ended(x);
        }
    }

    private static void openBytes() {
        for (int revision = 2; revision <= 5; revision++) {
            Pair x = ready(revision);
            due(9, "256", x.open(256), ARGUMENT);
            due(9, "-2", x.open(-2), ARGUMENT);
            due(9, "far", x.open(Integer.MIN_VALUE), ARGUMENT);
            due(9, "far", x.open(Integer.MAX_VALUE), ARGUMENT);
            for (int n = 1; n <= 4; n++) {
                due(9, "how many", x.open("user".charAt(n - 1)), n);
            }
            due(9, "nothing made", x.open(-1), STATE);
            x.make(9);
            due(9, "the word stayed", x.open(-1), 1);
            due(9, "and is gone", x.open(255), 1);
            for (int n = 2; n <= 127; n++) {
                due(9, "how many", x.open(n), n);
            }
            due(9, "127 bytes", x.open(0), UNSUPPORTED);
            due(9, "first the argument", x.open(256), ARGUMENT);
            due(9, "tried", x.open(-1), 0);
            due(9, "nothing is open", x.key(1, 1), STATE);
            due(9, "the 127 are gone", x.open(0), 1);
            ended(x);
        }
    }

    private static void openEarly() {
        for (int revision = 2; revision <= 4; revision++) {
            Pair x = made(revision);
            due(9, "user", x.tryWord(text("user")), 1);
            x.key(1, 0);
            x.seeAll();
            due(9, "owner", x.tryWord(text("owner")), 2);
            x.key(1, 0);
            x.seeAll();
            due(9, "neither", x.tryWord(text("User")), 0);
            due(9, "a part", x.tryWord(text("use")), 0);
            due(9, "more", x.tryWord(text("owner ")), 0);
            due(9, "padded as the document pads", x.tryWord(Model.padded(text("user"))), 1);
            due(9, "padded, and more", x.tryWord(Model.join(Model.padded(text("owner")), text("x"))), 2);
            ended(x);
        }
    }

    private static void openEmptyWords() {
        for (int revision = 2; revision <= 5; revision++) {
            Pair x = new Pair(revision);
            x.tapes(100);
            x.words(false, text("u"));
            x.make(1);
            due(9, "the user's word for the owner's", x.tryWord(text("u")), 1);
            due(9, "an owner's word without bytes", x.tryWord(text("")), revision == 5 ? 2 : 0);
            x.words(true, Model.FILL);
            x.make(1);
            due(9, "the fill as an owner's word", x.tryWord(Model.FILL), 2);
            due(9, "no bytes, padded like the fill", x.tryWord(text("")), revision == 5 ? 0 : 2);
            ended(x);
            x = new Pair(revision);
            x.tapes(100);
            x.words(true, text("o"));
            x.make(1);
            due(9, "a user's word without bytes", x.tryWord(text("")), 1);
            due(9, "the fill", x.tryWord(Model.FILL), revision == 5 ? 0 : 1);
            due(9, "the owner", x.tryWord(text("o")), 2);
            ended(x);
        }
    }

    /** A tried word without bytes is tried by its own owner's key, the one of the fill. */
    private static void openEmptyWordAsOwners() {
        byte[] longer = Model.join(Model.FILL, text("more"));
        byte[] shorter = java.util.Arrays.copyOf(Model.FILL, 31);
        byte[] other = Model.FILL.clone();
        other[31]++;
        for (int revision = 2; revision <= 4; revision++) {
            dueOfEmptyWord(revision, text("u"), Model.FILL, 2);
            dueOfEmptyWord(revision, Model.bytes(0), longer, 2);
            dueOfEmptyWord(revision, text("u"), shorter, 0);
            dueOfEmptyWord(revision, text("u"), other, 0);
            dueOfEmptyWord(revision, text("u"), text(""), 0);
            dueOfEmptyWord(revision, text(""), Model.FILL, 1);
            dueOfEmptyWord(revision, Model.FILL, text(""), 1);
            dueOfEmptyWord(revision, text(""), text(""), 1);
        }
        dueOfEmptyWord(5, text("u"), Model.FILL, 0);
        dueOfEmptyWord(5, text("u"), text(""), 2);
    }

    private static void dueOfEmptyWord(int revision, byte[] user, byte[] owner, int want) {
        Pair x = new Pair(revision);
        x.tapes(34);
        x.words(false, user);
        x.words(true, owner);
        x.make(-3);
        due(9, "a word without bytes", x.open(-1), want);
        int keyBytes = revision == 2 ? 10 : revision == 5 ? 32 : 16;
        due(9, "a key where it opens alone", x.key(1, 1), want == 0 ? STATE : keyBytes);
        x.seeAll();
        x.id(1);
        due(9, "by the id as it is then", x.open(-1), revision == 5 ? want : 0);
        x.make(-4);
        due(9, "made by that id", x.open(-1), want);
        x.alter(0, 0, ~Integer.parseInt(x.entry(0, 0)));
        due(9, "entry 0 is another one", x.open(-1), revision == 5 && want == 1 ? 1 : 0);
        ended(x);
    }

    private static void openLate() {
        Pair x = made(5);
        due(9, "owner", x.tryWord(text("owner")), 2);
        x.key(1, 0);
        x.seeAll();
        due(9, "user", x.tryWord(text("user")), 1);
        x.key(9, 9);
        x.seeAll();
        due(9, "neither", x.tryWord(text("users")), 0);
        x.alter(3, 5, 99);
        due(9, "entry 3 is not looked at", x.tryWord(text("user")), 1);
        x.key(1, 0);
        x.seeAll();
        x.alter(1, 47, ~Integer.parseInt(x.entry(1, 47)));
        due(9, "the other 8 are not looked at", x.tryWord(text("user")), 1);
        x.key(1, 0);
        x.seeAll();
        due(9, "the owner's goes by all of entry 1", x.tryWord(text("owner")), 0);
        x.make(3);
        due(9, "the next tape", x.tryWord(text("owner")), 2);
        x.alter(0, 40, ~Integer.parseInt(x.entry(0, 40)));
        due(9, "the other 8 are not looked at", x.tryWord(text("owner")), 2);
        x.key(1, 0);
        ended(x);
    }

    private static void openKeepsAndLoses() {
        for (int revision = 2; revision <= 5; revision++) {
            Pair x = opened(revision);
            x.applyAll(4, false, text("abc"));
            due(9, "opened again", x.tryWord(text("owner")), 2);
            due(9, "bytes stay where it is open", x.told(0), 3);
            x.end();
            x.applyAll(4, false, text("abc"));
            x.seeAll();
            due(9, "not opened", x.tryWord(text("no")), 0);
            due(9, "bytes are gone", x.told(0), 0);
            due(9, "nothing is open", x.apply(4, false, 1), STATE);
            due(9, "the entries stay", x.tryWord(text("user")), 1);
            ended(x);
        }
    }

    private static void key() {
        int[] sizes = {10, 16, 16, 32};
        for (int revision = 2; revision <= 5; revision++) {
            Pair x = made(revision);
            due(10, "nothing is open", x.key(1, 0), STATE);
            x.tryWord(text("owner"));
            int[][] numbers = {{0, 0}, {1, 0}, {256, 0}, {65536, 1}, {1, 256}, {-1, -1}, {0x7f000001, 0x10000}};
            for (int[] pair : numbers) {
                due(10, "how many", x.key(pair[0], pair[1]), sizes[revision - 2]);
                x.seeAll();
            }
            for (int kind = 0; kind < 3; kind++) {
                x.filter(kind);
                due(10, "by the filter", x.key(7, 8), sizes[revision - 2]);
                due(10, "the out", x.told(2), sizes[revision - 2]);
                x.seeAll();
            }
            x.alter(0, 0, 0);
            due(10, "nothing is open", x.key(1, 0), STATE);
            ended(x);
        }
    }

    private static void filter() {
        boolean[][] knows = {{true, true, false}, {true, true, false}, {true, true, true}, {true, false, true}};
        for (int revision = 2; revision <= 5; revision++) {
            Pair x = opened(revision);
            int now = revision < 4 ? 1 : 2;
            for (int kind : new int[] {-1, 0, 1, 2, 3, 0, 2, 1, Integer.MIN_VALUE, Integer.MAX_VALUE}) {
                boolean fits = kind >= 0 && kind <= 2 && knows[revision - 2][kind];
                due(11, "filter " + kind, x.filter(kind), fits ? now : ARGUMENT);
                now = fits ? kind : now;
            }
            x.filter(0);
            x.applyAll(5, false, text("a text"));
            x.filter(revision < 4 ? 1 : 2);
            due(11, "end goes by the filter of then", x.end(), revision < 4 ? 6 : 32);
            ended(x);
        }
    }

    private static void apply() {
        for (int revision = 2; revision <= 5; revision++) {
            Pair x = made(revision);
            due(12, "nothing is open", x.apply(1, false, 1), STATE);
            x.tryWord(text("user"));
            due(12, "how many", x.apply(0x01000007, false, 1), 1);
            due(12, "how many", x.apply(0x01000007, false, -1), 2);
            due(12, "another object by all of its number", x.apply(7, false, 1), STATE);
            due(12, "the other way", x.apply(0x01000007, true, 1), STATE);
            due(12, "nothing changed", x.told(0), 2);
            due(12, "how many", x.apply(0x01000007, false, 0), 3);
            x.end();
            x.seeAll();
            due(12, "another one", x.apply(7, true, 1), 1);
            due(12, "the other way", x.apply(7, false, 1), STATE);
            ended(x);
        }
    }

    private static void applyLimits() {
        for (int revision = 2; revision <= 5; revision++) {
            Pair x = new Pair(revision);
            x.tapes(21);
            x.make(-1340);
            x.open(-1);
            for (int n = 1; n <= 400; n++) {
                due(12, "how many", x.apply(-5, false, n), n);
            }
            due(12, "400 bytes", x.apply(-5, false, 1), UNSUPPORTED);
            due(12, "first the other object", x.apply(-4, false, 1), STATE);
            due(12, "first the other way", x.apply(-5, true, 1), STATE);
            x.digest(0);
            x.seeAll();
            x.digest(1);
            x.seeAll();
            due(13, "all of them", x.end(), revision < 4 ? 400 : 432);
            ended(x);
        }
    }

    private static void endOfBytes() {
        for (int revision = 2; revision <= 5; revision++) {
            Pair x = opened(revision);
            due(13, "none", x.end(), -1);
            x.filter(0);
            x.applyAll(3, true, text("as it is"));
            due(13, "as it is", x.end(), 8);
            due(13, "the first", x.out(0), (int) 'a');
            due(13, "none any more", x.end(), -1);
            due(13, "the out stays", x.told(2), 8);
            if (revision < 5) {
                x.filter(1);
                x.applyAll(3, false, text("by RC4"));
                due(13, "by RC4", x.end(), 6);
                x.seeAll();
                byte[] shut = x.model().outBytes.clone();
                x.applyAll(3, true, shut);
                due(13, "and back", x.end(), 6);
                due(13, "the first", x.out(0), (int) 'b');
                due(13, "the last", x.out(5), (int) '4');
            }
            due(13, "no tape was needed", x.told(1), revision == 5 ? 332 : 400);
            ended(x);
        }
    }

    private static void endOfBlocks() {
        for (int revision = 4; revision <= 5; revision++) {
            for (int length : new int[] {1, 15, 16, 17, 31, 32}) {
                Pair x = opened(revision);
                int tape = x.model().tapeLeft();
                x.applyAll(length, false, same(length, length));
                due(13, "vector and blocks", x.end(), 16 + length + 16 - length % 16);
                due(13, "the vector of the tape", x.told(1), tape - 16);
                x.seeAll();
                byte[] shut = x.model().outBytes.clone();
                x.applyAll(length, true, shut);
                due(13, "and back", x.end(), length);
                due(13, "the first", x.out(0), length);
                due(13, "the last", x.out(length - 1), length);
                ended(x);
            }
            Pair x = new Pair(revision);
            x.tapes(revision == 5 ? 20 : 3);
            x.make(1);
            x.open(-1);
            x.key(1, 1);
            x.apply(1, false, 1);
            due(13, "12 bytes of tape", x.end(), -2);
            due(13, "the tape stays", x.told(1), 12);
            due(13, "the bytes are gone", x.told(0), 0);
            due(13, "the out stays", x.told(2), revision == 5 ? 32 : 16);
            x.tape(1);
            x.apply(1, false, 1);
            due(13, "16 bytes of tape", x.end(), 32);
            due(13, "none left", x.told(1), 0);
            x.apply(1, false, 1);
            due(13, "given ones are not given again", x.end(), -2);
            ended(x);
        }
    }

    private static void endOfBlocksBack() {
        for (int revision = 4; revision <= 5; revision++) {
            Pair x = opened(revision);
            int[][] dues = {{1, -2}, {15, -2}, {16, -3}, {17, -3}, {31, -3}, {33, -3}, {32, -4}};
            int key = Integer.parseInt(x.key(5, 0));
            for (int[] row : dues) {
                x.applyAll(5, true, same(1, row[0]));
                due(13, row[0] + " bytes", x.end(), row[1]);
                due(13, "the bytes are gone", x.told(0), 0);
                due(13, "the out stays", x.told(2), key);
                x.seeAll();
            }
            ended(x);
        }
    }

    /** Vectors that make each last block end as it is wanted: what comes out is xor-ed with them. */
    private static void endWrongFills() {
        for (int revision = 4; revision <= 5; revision++) {
            Pair x = opened(revision);
            x.applyAll(6, false, text("0123456789abcde"));
            x.end();
            byte[] shut = x.model().outBytes.clone();
            byte[] plain = Model.join(text("0123456789abcde"), Model.bytes(1));
            int[][] ends = {{0, 0, 0}, {17, 17, 17}, {255, 255, 255}, {128, 1, 2}, {1, 3, 3}, {2, 3, 3}, {3, 3, 2}};
            for (int[] end : ends) {
                due(13, "filled up wrongly", backWithEnd(x, shut, plain, Model.bytes(end)), -4);
            }
            due(13, "filled by one", backWithEnd(x, shut, plain, Model.bytes(7, 2, 1)), 15);
            due(13, "filled by three", backWithEnd(x, shut, plain, Model.bytes(3, 3, 3)), 13);
            due(13, "nearly all 16", backWithEnd(x, shut, plain, Model.join(Model.bytes(15), same(16, 15))), -4);
            due(13, "all 16", backWithEnd(x, shut, plain, same(16, 16)), 0);
            due(13, "an out without bytes", x.out(0), ARRAY_INDEX);
            due(13, "an out without bytes", x.told(2), 0);
            ended(x);
        }
    }

    private static String backWithEnd(Pair x, byte[] shut, byte[] plain, byte[] end) {
        byte[] vectored = shut.clone();
        int start = 16 - end.length;
        for (int i = start; i < 16; i++) {
            vectored[i] ^= (byte) (plain[i] ^ end[i - start]);
        }
        x.applyAll(6, true, vectored);
        String got = x.end();
        x.seeAll();
        return got;
    }

    private static void out() {
        for (int revision = 2; revision <= 5; revision++) {
            Pair x = opened(revision);
            due(14, "nothing", x.out(0), ARRAY_INDEX);
            int count = Integer.parseInt(x.digest(1));
            due(14, "of the empty row's GREAT", x.out(0), (byte) 0xe3);
            due(14, "the last", x.out(count - 1), 0x55);
            due(14, "behind it", x.out(count), ARRAY_INDEX);
            due(14, "before it", x.out(-1), ARRAY_INDEX);
            due(14, "far", x.out(Integer.MIN_VALUE), ARRAY_INDEX);
            due(14, "far", x.out(Integer.MAX_VALUE), ARRAY_INDEX);
            x.digest(0);
            due(14, "a shorter out", x.out(15), 0x7e);
            due(14, "a shorter out", x.out(16), ARRAY_INDEX);
            x.make(1);
            due(14, "the out stays", x.out(15), 0x7e);
            ended(x);
        }
    }

    private static void digest() {
        Pair x = opened(4);
        due(15, "no such hash", x.digest(2), ARGUMENT);
        due(15, "no such hash", x.digest(-1), ARGUMENT);
        due(15, "the out stays", x.told(2), 0);
        x.applyAll(1, false, text("abc"));
        due(15, "SMALL", x.digest(0), 16);
        dueOut(x, "900150983cd24fb0d6963f7d28e17f72");
        due(15, "GREAT", x.digest(1), 32);
        dueOut(x, "ba7816bf8f01cfea414140de5dae2223b00361a396177a9cb410ff61f20015ad");
        due(15, "they stay", x.told(0), 3);
        x.alter(0, 0, 1);
        due(15, "of none", x.digest(0), 16);
        dueOut(x, "d41d8cd98f00b204e9800998ecf8427e");
        ended(x);
        x = opened(3);
        for (int n = 1; n <= 130; n++) {
            x.apply(1, true, 3 * n);
            x.digest(n & 1);
            x.seeAll();
            x.digest(1 - (n & 1));
            x.seeAll();
        }
        ended(x);
    }

    private static void dueOut(Pair x, String hex) {
        for (int i = 0; 2 * i < hex.length(); i++) {
            due(15, "byte " + i, x.out(i), (byte) Integer.parseInt(hex.substring(2 * i, 2 * i + 2), 16));
        }
    }

    private static void weak() {
        for (int revision = 2; revision <= 5; revision++) {
            Pair x = new Pair(revision);
            due(16, "by the revision", x.weak(), revision == 2 ? 1 : 0);
            x.filter(0);
            due(16, "filter 0", x.weak(), 1);
            x.filter(1);
            due(16, "filter 1", x.weak(), revision == 2 || revision == 5 ? 1 : 0);
            x.filter(2);
            due(16, "filter 2", x.weak(), revision == 2 ? 1 : 0);
            ended(x);
        }
    }

    private static void told() {
        for (int revision = 2; revision <= 5; revision++) {
            Pair x = made(revision);
            due(17, "no such", x.told(-1), INDEX);
            due(17, "no such", x.told(4), INDEX);
            due(17, "permissions", x.told(3), -1340);
            x.tryWord(text("owner"));
            due(17, "permissions when open", x.told(3), -1340);
            x.applyAll(1, false, text("12345"));
            due(17, "collected", x.told(0), 5);
            due(17, "the tape", x.told(1), revision == 5 ? 332 : 400);
            x.digest(1);
            due(17, "the out", x.told(2), 32);
            x.make(0x01020384);
            due(17, "permissions", x.told(3), 0x01020384);
            ended(x);
        }
        Pair x = made(5);
        x.alter(4, 0, ~Integer.parseInt(x.entry(4, 0)));
        due(17, "as made, when not open", x.told(3), -1340);
        x.tryWord(text("user"));
        String told = x.told(3);
        due(17, "as the altered entry 4 tells", Boolean.toString(told.equals("-1340")), false);
        x.tryWord(text("no"));
        due(17, "as made, when not open any more", x.told(3), -1340);
        ended(x);
    }
}
