/** Plays for the promises that their titles name; see Due for what the lines mean. */
public final class LockTest {
    public static void main(String[] arguments) {
        Due.play("Promises 15, 26: a lock that another thread has: WAITS, is handed on in the row's order, second steps", """
            text `a(){lock 5{x=start b();x=start b();x=start b();x=7;join 9;}}b(){lock 5{y=1;}}` = 2
            lock(5, 0) = -1
            begin(0, 0, 0, 0) = 1
            lock(5, *) = -1 0 0 0 0 0 0 -1
            lock(5, -1) = -1
            lock(8, 0) = -1
            lock(-1, 0) = -1
            run(1) = 1
            lock(5, *) = 0 1 0 0 0 0 1
            run(3) = 3
            lock(5, *) = 0 1 0 0 0 3 1
            text `a(){lock 5{x=start b();x=start b();x=start b();join c();}z=1;}b(){lock 5{y=1;}}c(){return start d();}d(){w=1;w=2;}` = 4
            begin(0, 0, 0, 0) = 1
            run(6) = 6
            thread(0, *) = 2 1 0 7 4 4 6 -1 0
            run(3) = 3
            thread(1, *) = 1 1 1 3 5 0 1 -1 2
            thread(2, *) = 1 1 1 3 5 0 1 -1 1
            thread(3, *) = 1 1 1 3 5 0 1 -1 0
            lock(5, *) = 0 1 0 3 3 8 1
            run(2) = 2
            thread(0, *) = 0 1 0 7 -1 -1 6 -1 5
            thread(3, *) = 1 1 1 3 5 0 1 -1 2
            lock(5, *) = 0 1 0 3 9 10 1
            run(2) = 2
            thread(0, *) = 0 1 0 9 -1 -1 8 -1 5
            thread(1, *) = 0 1 1 3 -1 -1 1 -1 6
            lock(5, *) = 1 2 0 3 15 12 3
            run(1) = 1
            state(2) = 1
            run(1) = 1
            lock(5, *) = 1 2 0 3 19 14 3
            run(1) = 1
            lock(5, *) = 1 2 0 3 21 15 3
            run(1) = 1
            lock(5, *) = 2 3 0 3 23 16 7
            thread(2, *) = 0 1 1 3 -1 -1 1 -1 9
            run(20000) = 6
            state(*) = 2 23 -1 5
            lock(5, *) = -1 4 0 3 26 22 15
            thread(1, 8) = 6
            thread(2, 8) = 9
            thread(3, 8) = 11
            """);
        Due.play("Promise 26: once more by the same thread, let go wholly by the last", """
            text `a(){lock 1{lock 1{b();}x=1;}x=2;}b(){lock 1{y=1;}}` = 2
            begin(0, 0, 0, 0) = 1
            run(4) = 4
            lock(1, *) = 0 1 2 0 0 3 1
            run(3) = 3
            lock(1, *) = 0 1 2 0 0 6 1
            run(2) = 2
            lock(1, *) = -1 1 2 0 0 8 1
            run(20000) = 1
            lock(1, *) = -1 1 2 0 0 8 1
            """);
        Due.play("Promise 26: RETURN, BREAK and failure ways let locks go, the innermost first", """
            text `a(){try{lock 0{lock 1{throw 1;}}}catch e{}print l();while(1){lock 2{lock 3{break;}}}lock 4{try{throw 2;}catch e{x=1;}}lock 5{x=1/0;}}l(){lock 6{lock 7{return 5;}}}` = 2
            begin(0, 0, 0, 0) = 1
            run(3) = 3
            lock(0, *) = -1 1 0 0 0 2 1
            lock(1, *) = -1 1 0 0 0 1 1
            run(4) = 4
            lock(6, *) = 0 1 0 0 0 1 1
            lock(7, *) = 0 1 0 0 0 0 1
            run(4) = 4
            lock(2, *) = 0 1 0 0 0 1 1
            lock(3, *) = 0 1 0 0 0 0 1
            run(3) = 3
            lock(4, *) = 0 1 0 0 0 1 1
            run(2) = 2
            lock(4, *) = 0 1 0 0 0 3 1
            run(20000) = 3
            state(*) = 2 19 -1
            lock(5, *) = -1 1 0 0 0 1 1
            lock(4, *) = -1 1 0 0 0 4 1
            thread(0, 0) = 4
            """);
        Due.play("Promise 26: a lock's own failure takes nothing; wrong locks", """
            text `a(){try{lock 8{}}catch e{print e;}try{lock nil{}}catch e{print e;}try{lock 7/0{}}catch e{print e;}lock 7{print 7;}}` = 1
            begin(0, 0, 0, 0) = 1
            run(20000) = 12
            printed(*) = 8 4 1 7
            lock(7, *) = -1 1 0 0 0 2 1
            thrown(8, *) = 1 1 0 0
            """);
        Due.play("Promises 13, 15: STUCK: each waits for what the other has", """
            text `a(){lock 0{x=start b();join 1;}}b(){lock 0{y=1;}}` = 2
            begin(0, 0, 0, 0) = 1
            run(20000) = 4
            state(*) = 3 4 -1 2
            thread(0, *) = 2 1 0 5 1 1 3 -1 1
            thread(1, *) = 1 1 1 3 0 0 1 -1 0
            lock(0, *) = 0 1 0 1 0 3 1
            """);
        Due.play("Promise 15: a JOIN that waits, and one that needn't", """
            text `a(){x=start b();join x;join x;print 1;}b(){y=1;y=2;}` = 2
            begin(0, 0, 0, 0) = 1
            run(2) = 2
            thread(0, *) = 2 1 0 4 1 1 2 -1 0
            run(1) = 1
            thread(0, *) = 2 1 0 4 1 1 2 -1 1
            run(1) = 1
            thread(0, *) = 0 1 0 4 -1 -1 2 -1 2
            run(1) = 1
            thread(0, *) = 0 1 0 5 -1 -1 3 -1 2
            run(20000) = 2
            thread(0, *) = 3 0 -1 -1 -1 -1 5 -1 2
            state(*) = 2 7 -1 2
            """);
        Due.end("LockTest");
    }
}
