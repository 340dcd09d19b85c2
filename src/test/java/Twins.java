import java.util.List;
import java.util.function.Consumer;
import java.util.function.ToLongFunction;

/** A call is made on one of two twins: what all later calls show must be alike, if it was to change nothing. */
final class Twins {
    private static final List<Consumer<TagReader>> STATES = List.of(x -> { }, Twins::makeRich, Twins::makeFull);

    private Twins() {
    }

    /** Refused in every state, and it changes nothing. */
    static void refused(String name, ToLongFunction<TagReader> call, long want) {
        for (Consumer<TagReader> state : STATES) {
            refused(name, state, call, want);
        }
    }

    static void refused(String name, Consumer<TagReader> state, ToLongFunction<TagReader> call, long want) {
        TagReader x = new TagReader();
        state.accept(x);
        Check.due(name, call.applyAsLong(x), want);
        TagReader twin = new TagReader();
        state.accept(twin);
        alike(name, x, twin);
    }

    /** A call that only asks: it changes nothing, whatever it answers. */
    static void onlyAsks(String name, ToLongFunction<TagReader> call) {
        for (Consumer<TagReader> state : STATES) {
            TagReader x = new TagReader();
            state.accept(x);
            long first = call.applyAsLong(x);
            Check.due(name + " again", call.applyAsLong(x), first);
            TagReader twin = new TagReader();
            state.accept(twin);
            alike(name, x, twin);
        }
    }

    private static void alike(String name, TagReader x, TagReader twin) {
        for (Call call : Look.calls()) {
            Check.due(name + " changed nothing: " + call, call.on(x), call.on(twin));
        }
    }

    /** Something of everything; 5 bits, three TAGS, a tree, a FRAME, a FAULT of the text and one of a SHEET. */
    static void makeRich(TagReader x) {
        x.bits(5);
        x.tag(3, 10);
        x.tag(20, 99);
        x.tag(21, 1);
        x.know(7);
        x.know(30);
        x.block(0b101, 3);
        x.tree(0);
        Check.tell(x, "frame 6; least 2; most 9; grow 50 150; shrink 40 70; above 5; rounds 4;");
        x.wake();
        x.all(3);
        x.wake();
        x.frame(2, 8);
        x.hush(1, true);
        Check.tell(x, "frame 0;");
        for (int k = 0; k < 3; k++) {
            x.sheet(k, k, 6 - k);
            for (int i = 0; i < 6 - k; i++) {
                x.lay(k, i, 10 * k + i + 1);
            }
        }
        x.read(0, 1, 0, 1);
        Check.type(x, "above 4; frame 31;");
    }

    /** All that is bounded is full; 12 bits, 16 TAGS, 16 KNOWN ones, 64 questions kept, 200 bytes, 40 CELLS. */
    static void makeFull(TagReader x) {
        x.bits(12);
        for (int i = 0; i < 16; i++) {
            x.tag(4095 - 3 * i, 99 - i);
            x.know(255 * i);
        }
        x.block(5, 7);
        x.tree(0);
        x.wake();
        x.hush(2, true);
        x.hush(15, true);
        x.sheet(0, 2, 40);
        for (int i = 0; i < 40; i += 2) {
            x.lay(0, i, 4000 - i);
            x.lay(0, i + 1, i + 1);
        }
        x.sheet(3, 0, 0);
        Check.type(x, " ".repeat(180) + "frame 63; rounds 40;");
    }
}
