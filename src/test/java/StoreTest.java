/** Plays for the promises that their titles name; see Due for what the lines mean. */
public final class StoreTest {
    public static void main(String[] arguments) {
        Due.play("Promises 22, 23, 24: LOOKS by hand and behind steps", """
            text `var v;a(){x=new[3];y=new[5];x=nil;v=y;y=new[1];}` = 1
            look() = -1
            begin(0, 0, 0, 2) = 1
            look() = 0
            run(1) = 1
            look() = 1
            run(20000) = 4
            state(8) = 4
            look() = 4
            seen(0, *) = 0 0 0 -1
            seen(1, *) = 1 1 40
            seen(2, *) = 2 2 96
            seen(3, *) = 4 1 56
            seen(4, *) = 5 1 56
            seen(5, 0) = -1
            seen(-2, 0) = -1
            seen(0, -1) = -1
            seen(-1, *) = 2 -1
            made(0, *) = 0 3 3 40 1 1 3 -1
            made(1, *) = 0 4 5 56 2 2 -1
            made(2, *) = 0 7 1 24 5 5 4
            made(3, 0) = -1
            made(-1, 0) = -1
            made(0, -1) = -1
            """);
        Due.play("Promise 23: the LOOK with the most BYTES, the first one", """
            text `var v;a(){v=new[2];v=new[4];v=nil;v=new[4];}` = 1
            begin(0, 0, 0, 1) = 1
            seen(-1, 0) = -1
            run(20000) = 4
            seen(-1, 0) = 1
            seen(0, 2) = 32
            seen(1, *) = 2 1 48
            seen(2, *) = 3 0 0
            seen(3, *) = 4 1 48
            """);
        Due.play("Promise 22: at most 400 LOOKS", """
            text `a(){while(1){}}` = 1
            begin(0, 0, 0, 1) = 1
            run(399) = 399
            look() = 399
            look() = -1
            run(5) = 5
            state(8) = 400
            seen(399, 0) = 399
            seen(400, 0) = -1
            """);
        Due.play("Promise 24: where and when an array was made, and its latest USE", """
            text `var v;a(){v=new[2];b(new[1]);x=v[0];x=len v;v[1]=3;x=v=v;y=v;try{x=v[2];}catch e{}}b(p){w=new[4];}` = 2
            begin(0, 0, 0, 0) = 1
            run(1) = 1
            made(0, *) = 0 3 2 32 1 1 -1
            run(1) = 1
            made(1, *) = 0 4 1 24 2 2 -1
            run(1) = 1
            made(2, *) = 1 3 4 48 3 3 -1
            run(1) = 1
            made(0, 5) = 4
            run(1) = 1
            made(0, 5) = 5
            run(1) = 1
            made(0, 5) = 6
            run(9) = 4
            state(0) = 2
            made(0, 5) = 6
            """);
        Due.play("Promise 24: an array that a caller's node makes when it goes on is that node's", """
            text `a(){x=b(1)+len new[6];}b(p){return p;}` = 2
            price(17, 3) = 0
            begin(0, 0, 0, 0) = 1
            run(2) = 2
            made(0, *) = 0 3 6 64 2 2 -1
            tree(2, 3) = 19
            tree(3, 3) = 1
            state(1) = 2
            state(5) = 20
            """);
        Due.play("Promise 24: the first LOOK at which it was not REACHED", """
            text `var v;a(){x=new[1];y=new[2];x[0]=y;y=nil;x=nil;v=new[3];}` = 1
            begin(0, 0, 0, 1) = 1
            run(4) = 4
            made(0, 6) = -1
            made(1, 6) = -1
            run(9) = 2
            made(0, 6) = 4
            made(1, 6) = 4
            made(2, 6) = -1
            look() = 6
            made(2, 6) = -1
            """);
        Due.play("Promise 25: HELD by a var, a NAME, what waits, another one, or not at all", """
            text `var v;a(){v=new[3];x=new[2];v[1]=x;v[2]=new[1];x[0]=new[2];x=nil;b(new[4],c());}b(p,q){print 5;}c(){print 1;print 2;return 3;}` = 3
            begin(0, 0, 0, 0) = 1
            held(0) = -1
            run(7) = 7
            state(7) = 5
            held(0) = -2
            held(1) = 0
            held(2) = 0
            held(3) = 1
            held(4) = -2
            held(5) = -1
            held(-1) = -1
            run(20000) = 4
            held(0) = -2
            held(3) = 1
            held(4) = -1
            """);
        Due.play("Promise 25: in the order of the row, elements of the eldest first", """
            text `var v;var w;a(){w=new[2];v=new[2];x=new[1];w[0]=x;v[1]=x;y=new[1];x[0]=y;w[1]=y;x=nil;y=nil;z=0;z=1;}` = 1
            begin(0, 0, 0, 0) = 1
            run(20000) = 12
            state(7) = 4
            held(0) = -2
            held(1) = -2
            held(2) = 1
            held(3) = 0
            """);
        Due.play("Promise 25: a ring that nothing tells is not REACHED", """
            text `a(){x=new[1];y=new[1];x[0]=y;y[0]=x;x=nil;y=nil;z=1;}` = 1
            begin(0, 0, 0, 0) = 1
            run(5) = 5
            held(0) = 1
            held(1) = -2
            run(1) = 1
            held(0) = -1
            held(1) = -1
            look() = 0
            seen(0, *) = 6 0 0
            """);
        Due.play("Promises 23, 25: what waits in nodes under way: left sides, arguments, W and ex of W[ex]", """
            text `a(){x=b(new[1],c(2));y=new[3]=c(4);z=new[5];z[c(6)]=c(7);for i=new[8] to c(9){}}b(p,q){return c(10);}c(n){u=new[n];return 0;}` = 3
            begin(0, 0, 0, 1) = 1
            run(20000) = 18
            state(8) = 18
            looks(16) = 1 24 / 2 56 / 1 24 / 1 24 / 2 120 / 0 0 / 1 40 / 2 88 / 0 0 / 1 56 / 1 56 / 2 120 / 1 56 / 2 128 / 1 56 / 2 136
            """);
        Due.play("Promise 25: threads in order, their activations from the eldest on", """
            text `a(){x=start b(new[1]);p=new[2];y=start b(p);p[0]=new[1];p[1]=p[0];p=nil;join x;join y;}b(q){s=q;s=1;s=2;s=3;}` = 2
            begin(0, 9, 0, 1) = 1
            run(14) = 14
            held(0) = -1
            held(1) = -1
            held(2) = -1
            run(20000) = 2
            looks(20) = 1 24 / 2 56 / 2 56 / 2 56 / 2 56 / 2 56 / 1 32 / 1 32 / 2 56 / 2 56 / 2 56 / 2 56 / 2 56 / 0 0 / 0 0 / 0 0 / -1 -1 / -1 -1 / -1 -1 / -1 -1
            """);
        Due.play("Promise 22: CATCH's W is set by the way there", """
            text `a(){try{throw new[9];}catch e{print 1;}}` = 1
            begin(0, 0, 0, 1) = 1
            run(1) = 1
            seen(0, *) = 1 1 88
            held(0) = -2
            thread(0, 3) = 4
            """);
        Due.play("Promises 22, 25: what was worked out is gone behind its node, behind a failure in its midst, too", """
            text `var v;a(){x=len new[7];try{x=new[3]=f();}catch e{x=1;}v=new[2];v[c()]=d();x=2;}f(){throw 1;}c(){return 1;}d(){v=nil;return 1;}` = 4
            begin(0, 0, 0, 1) = 1
            run(20000) = 11
            looks(13) = 0 0 / 1 40 / 0 0 / 0 0 / 0 0 / 1 32 / 1 32 / 1 32 / 1 32 / 0 0 / 0 0 / -1 -1 / -1 -1
            held(0) = -1
            held(1) = -1
            held(2) = -1
            """);
        Due.end("StoreTest");
    }
}
